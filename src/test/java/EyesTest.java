/** Promises 26 to 30: eyes. */
public final class EyesTest {
    private static final int BAD = Due.BAD, NONE = Due.NONE;
    private static final int PART = 0, BAG = 1, MIRROR = 2, WHITE = 3, BUMP = 4, DEAD = 5;
    private static final Due due = new Due("EyesTest");

    public static void main(String[] args) {
        seenWithoutText();
        seenByNames();
        seenByMoves();
        seenByEdges();
        beast();
        beastsHang();
        allOfOneBeast();
        groupsTold();
        hide();
        hideOfSeveral();
        hideIsAtRest();
        hideByText();
        misses();
        missesOfSeveral();
        searchesChangeNothing();
        half();
        due.end();
    }

    private static void seenWithoutText() {
        SkinShow s = new SkinShow();
        due.is(26, "ground -1", s.seen(-1, 0), BAD);
        due.is(26, "ground 4", s.seen(4, 0), BAD);
        due.is(26, "place -1", s.seen(0, -1), BAD);
        due.is(26, "place 48", s.seen(0, 48), BAD);
        Due.line(s, 6, 59, 60, 41, 40);
        int[] seen = {0, 1, 0, 1, 0};
        for (int place = 0; place < 5; place++) {
            due.is(26, "a difference above 9 at " + place, s.seen(1, place), seen[place]);
            due.is(26, "on another GROUND", s.seen(0, place), 0);
        }
        Due.line(s, 11, 0, 0, 0, 0, 0, 0, 0, 0);
        due.is(26, "the last PLACE", s.seen(1, 47), 1);
        due.is(26, "above the last PLACE", s.seen(1, 39), 0);
        Due.text(s, 1, "eye 1");
        due.is(26, "a TEXT not in force", s.seen(1, 0), 0);
        s.tick(1);
        due.is(26, "in force", s.seen(1, 0), 1);
        Due.text(s, 1, "pull 0 0");
        due.is(26, "a TEXT of a GROUP", s.seen(1, 0), 1);
        Due.text(s, 1, "eye 0-1");
        due.is(26, "what is not 0", s.seen(1, 0), 1);
        Due.text(s, 1, "eye 0");
        due.is(26, "0", s.seen(1, 1), 0);
    }

    private static void seenByNames() {
        SkinShow s = new SkinShow();
        Due.line(s, 0, 60, 40, 50, 10);
        Due.text(s, 0, "eye d=10");
        int[] byDifference = {1, 1, 0, 0, 0};
        for (int place = 0; place < 5; place++) {
            due.is(26, "d at " + place, s.seen(0, place), byDifference[place]);
        }
        Due.text(s, 0, "eye g<50");
        int[] byGround = {0, 1, 0, 1, 0};
        for (int place = 0; place < 5; place++) {
            due.is(26, "g at " + place, s.seen(0, place), byGround[place]);
        }
        s.rule(0, 20);
        Due.text(s, 0, "eye d=10&g=10|d=30&m=30&c=0");
        due.is(26, "with another TONE", s.seen(0, 3), 1);
        due.is(26, "and elsewhere", s.seen(0, 2), 1);
        due.is(26, "but not", s.seen(0, 0), 0);
    }

    private static void seenByMoves() {
        SkinShow s = new SkinShow();
        s.part(WHITE, 9, 0, 9, 0);
        s.part(BAG, 10, 9, 9, 0);
        s.pull(0, 9);
        Due.text(s, 0, "eye m");
        due.is(26, "m ahead", s.seen(0, 9), 0);
        s.tick(1);
        due.is(26, "m behind", s.seen(0, 9), 1);
        due.is(26, "of the BAG", s.seen(0, 10), 1);
        due.is(26, "of none", s.seen(0, 11), 0);
        Due.text(s, 0, "eye m=18");
        due.is(26, "up by 18", s.seen(0, 9), 1);
        due.is(26, "down by 18", s.seen(0, 10), 1);
        s.tick(1);
        due.is(26, "there", s.seen(0, 9), 0);
        s.rest();
        due.is(26, "WAS as LIGHT", s.seen(0, 10), 0);
    }

    private static void seenByEdges() {
        SkinShow s = new SkinShow();
        s.part(WHITE, 9, 2, 9, 0);
        s.part(WHITE, 0, 2, 9, 0);
        s.rest();
        // LIGHT 70 at 0 and 9, 50 elsewhere
        int[] place = {0, 1, 8, 9, 10, 17, 2, 16, 18, 7};
        int[] edges = {2, 2, 2, 4, 1, 1, 0, 0, 0, 0};
        for (int i = 0; i < place.length; i++) {
            Due.text(s, 0, "eye c=" + edges[i]);
            due.is(26, "c at " + place[i], s.seen(0, place[i]), 1);
            s.back();
            s.keep();
        }
        SkinShow less = new SkinShow();
        less.part(WHITE, 9, 2, 9, 0);
        less.rest();
        Due.text(less, 0, "eye c");
        less.rule(2, 21);
        due.is(26, "just below EDGE", less.seen(0, 9), 0);
        less.rule(2, 20);
        due.is(26, "just EDGE", less.seen(0, 9), 1);
        less.part(WHITE, 0, 2, 9, 0);
        less.rest();
        due.is(26, "edges at the first PLACE", less.seen(0, 0), 1);
        less.rule(2, 99);
        for (int p = 0; p < 48; p++) {
            due.is(26, "no edges of before at " + p, less.seen(0, p), 0);
        }
    }

    private static void beast() {
        SkinShow s = new SkinShow();
        due.is(27, "ground -1", s.beast(-1, 0), BAD);
        due.is(27, "ground 4", s.beast(4, 0), BAD);
        due.is(27, "what -1", s.beast(0, -1), BAD);
        due.is(27, "what 5", s.beast(0, 5), BAD);
        int[] none = {0, 0, NONE, 0, 0};
        for (int what = 0; what < 5; what++) {
            due.is(27, "nothing SEEN, " + what, s.beast(0, what), none[what]);
        }
        Due.text(s, 0, "eye d");
        // two of three PLACES, and one of two
        Due.line(s, 6, 50, 50, 50, 50, 50, 50, 0, 0);
        Due.line(s, 7, 50, 0, 0, 50, 50, 50, 50, 50);
        Due.line(s, 8, 50, 0, 50, 50, 0, 0, 50, 50);
        Due.line(s, 9, 50, 50, 50, 50, 50, 0, 50, 50);
        int[] want = {8, 3, 9, 0, 3};
        for (int what = 0; what < 5; what++) {
            due.is(27, "beast(1, " + what + ")", s.beast(1, what), want[what]);
        }
        s.rule(3, 4);
        due.is(27, "not TAKEN at 4", s.beast(1, 3), 0);
        s.rule(3, 3);
        due.is(27, "TAKEN at 3", s.beast(1, 3), 1);
        s.put(9, 4, 0);
        due.is(27, "now the lower one is greater", s.beast(1, 2), 20);
        due.is(27, "by one", s.beast(1, 1), 4);
        for (int what = 0; what < 5; what++) {
            due.is(27, "nothing SEEN behind it, " + what, s.beast(3, what), none[what]);
        }
    }

    private static void beastsHang() {
        SkinShow s = new SkinShow();
        Due.text(s, 0, "eye d");
        Due.line(s, 0, 50, 50, 50, 50, 50, 50, 50, 0);
        Due.line(s, 1, 0, 50, 50, 50, 50, 50, 0, 50);
        due.is(27, "neither over the rim nor aslant", s.beast(0, 4), 3);
        due.is(27, "one each", s.beast(0, 1), 1);
        due.is(27, "the least PLACE", s.beast(0, 2), 7);
        s.put(0, 6, 0);
        due.is(27, "together", s.beast(0, 4), 2);
        due.is(27, "three", s.beast(0, 1), 3);
        due.is(27, "its least PLACE", s.beast(0, 2), 6);
        Due.line(s, 2, 0, 0, 0, 0, 0, 0, 0, 50);
        due.is(27, "a bow: all in one", s.beast(0, 4), 1);
        due.is(27, "eleven", s.beast(0, 1), 11);
        due.is(27, "the least of a bow", s.beast(0, 2), 6);
    }

    private static void allOfOneBeast() {
        SkinShow s = new SkinShow();
        Due.text(s, 0, "eye 1");
        int[] want = {48, 48, 0, 1, 1};
        s.rule(3, 48);
        for (int what = 0; what < 5; what++) {
            due.is(27, "all SEEN, " + what, s.beast(2, what), want[what]);
        }
        Due.text(s, 0, "eye g");
        Due.shade(s, 2, 1);
        for (int y = 0; y < 6; y++) {
            for (int x = y % 2; x < 8; x += 2) {
                s.put(12 + y, x, 0);
            }
        }
        int[] board = {24, 1, 1, 0, 24};
        for (int what = 0; what < 5; what++) {
            due.is(27, "every second one SEEN, " + what, s.beast(2, what), board[what]);
        }
    }

    private static void groupsTold() {
        SkinShow s = new SkinShow();
        int[] bad = {-1, 6, 7, 9, 11, 16, 60, 61, 101, 122, 121, 112, 126, 160, 612, 555, 999, 1000, 1023, 12345,
            Due.LEAST, Due.MOST, -12};
        for (int groups : bad) {
            due.is(28, "groups " + groups, s.hide(0, groups, 0), BAD);
            due.is(29, "groups " + groups, s.misses(0, groups, 1), BAD);
        }
        int[] good = {0, 5, 10, 54, 102, 543};
        for (int groups : good) {
            due.is(28, "groups " + groups, s.hide(0, groups, 0), 0);
            due.is(29, "groups " + groups, s.misses(0, groups, 1), 0);
        }
        int[][] off = {{-1, 0, 0}, {4, 0, 0}, {0, 0, -1}, {0, 0, 2}};
        for (int[] o : off) {
            due.is(28, "ground or what", s.hide(o[0], o[1], o[2]), BAD);
            due.is(29, "ground or what", s.misses(o[0], o[1], o[2]), BAD);
        }
    }

    private static void hide() {
        SkinShow s = new SkinShow();
        s.part(BAG, 0, 6, 9, 0);
        Due.line(s, 0, 11);
        // LIGHT 50 less 6 a PULL: 32, 26, 20 (d 9), 14 (d 3), 8 (d 3), 2 (d 9)
        due.is(28, "none is SEEN", s.hide(0, 0, 0), 0);
        due.is(28, "the first PULL by which", s.hide(0, 0, 1), 5);
        due.is(28, "GROUP 1 does nothing", s.hide(0, 1, 0), 1);
        due.is(28, "so 0 is the first", s.hide(0, 1, 1), 0);
        s.pull(0, 8);
        due.is(28, "others as they are", s.hide(0, 1, 0), 0);
        due.is(28, "two GROUPS, the first told the highest", s.hide(0, 10, 1), 5);
        due.is(28, "three", s.hide(0, 102, 1), 50);
        due.is(28, "three, in another order", s.hide(0, 201, 1), 50);
        due.is(28, "three, 0 last", s.hide(0, 120, 1), 5);
        due.is(28, "three, 0 last", s.hide(0, 120, 0), 0);
    }

    private static void hideOfSeveral() {
        SkinShow s = new SkinShow();
        s.part(BAG, 0, 5, 9, 0);
        s.part(MIRROR, 47, 5, 9, 1);
        s.nerve(1, 0, 3);
        Due.line(s, 0, 5);
        Due.line(s, 5, 50, 50, 50, 50, 50, 50, 50, 64);
        // the BAG wants 7 to 9 (LIGHT 15 and less), the MIRROR SIZES 3 to 9 but 12 (LIGHT 55 to 73): PULLS 0 to 6
        due.is(28, "by both", s.hide(0, 30, 0), 0);
        due.is(28, "PULLS of 3, then of 0", s.hide(0, 30, 1), 8);
        s.put(5, 7, 56);
        due.is(28, "PULL of 3 is needed", s.hide(0, 30, 1), 28);
        due.is(28, "by one alone", s.hide(0, 3, 0), 1);
        due.is(28, "its PULL", s.hide(0, 3, 1), 2);
        due.is(28, "three GROUPS", s.hide(0, 345, 1), 200);
        due.is(28, "three GROUPS", s.hide(0, 435, 1), 20);
        due.is(28, "all three", s.hide(0, 403, 1), 82);
        s.nerve(1, 0, 1);
        due.is(28, "the least two GROUPS", s.hide(0, 10, 1), 28);
        due.is(28, "the least two GROUPS, seen", s.hide(0, 10, 0), 0);
    }

    private static void hideIsAtRest() {
        SkinShow s = new SkinShow();
        s.part(BAG, 0, 9, 9, 0);
        s.part(WHITE, 1, 0, 9, 0);
        Due.text(s, 0, "eye m|d>17");
        s.rule(0, 40);
        due.is(28, "WAS is not LIGHT now", s.beast(0, 0), 48);
        Due.line(s, 0, 4, 58);
        due.is(28, "but AT REST", s.hide(0, 0, 0), 0);
        due.is(28, "PULL by which", s.hide(0, 0, 1), 3);
    }

    private static void hideByText() {
        SkinShow s = new SkinShow();
        s.part(BAG, 9, 4, 9, 0);
        s.rule(2, 8);
        Due.text(s, 0, "eye !c");
        // PULL 2 and more: LIGHT is less by 8, four PLACES and the one have edges
        due.is(28, "by edges", s.hide(0, 0, 0), 43);
        due.is(28, "the first", s.hide(0, 0, 1), 2);
        s.rule(2, 30);
        due.is(28, "by another EDGE", s.hide(0, 0, 1), 8);
        Due.text(s, 1, "eye 0");
        due.is(28, "a TEXT not in force", s.hide(0, 0, 0), 43);
        s.tick(1);
        due.is(28, "a TEXT in force", s.hide(0, 0, 0), 0);
        due.is(28, "all alike: the first", s.hide(0, 0, 1), 0);
        Due.text(s, 1, "eye g=40");
        Due.line(s, 1, 40, 40);
        due.is(28, "by the GROUND", s.hide(0, 0, 0), 2);
        due.is(28, "on another one", s.hide(1, 0, 0), 0);
    }

    private static void misses() {
        SkinShow s = new SkinShow();
        s.part(BAG, 0, 6, 9, 0);
        Due.line(s, 0, 11, 49);
        due.is(29, "8 and 9 miss by 3: the sum", s.misses(0, 0, 0), 4);
        due.is(29, "the first", s.misses(0, 0, 1), 6);
        due.is(29, "GROUP 1 does nothing", s.misses(0, 1, 0), 40);
        due.is(29, "so 0 is the first", s.misses(0, 1, 1), 0);
        s.pull(0, 9);
        due.is(29, "others as they are: LIGHT 0", s.misses(0, 1, 0), 12);
        due.is(29, "on a GROUND that is met", s.misses(1, 0, 0), 0);
        due.is(29, "at once", s.misses(1, 0, 1), 0);
        SkinShow near = new SkinShow();
        near.part(BAG, 0, 1, 9, 0);
        Due.line(near, 0, 47);
        due.is(29, "by 3, 2, 1, 0", near.misses(0, 0, 0), 0);
        due.is(29, "just met", near.misses(0, 0, 1), 3);
        Due.line(near, 0, 49);
        near.pull(0, 1);
        near.rest();
        due.is(29, "as it is", near.misses(0, 0, 1), 1);
        SkinShow held = new SkinShow();
        held.part(BAG, 0, 9, 3, 0);
        Due.line(held, 0, 23);
        due.is(29, "where the SPAN holds", held.misses(0, 0, 0), 0);
        due.is(29, "the first that reaches it", held.misses(0, 0, 1), 3);
        due.is(28, "the first that reaches it", held.hide(0, 0, 1), 2);
        held.nerve(0, 1, 1);
        due.is(29, "a weak nerve: 1 from 5 on", held.misses(0, 0, 1), 5);
        Due.shade(s, 2, 99);
        s.rule(0, 0);
        due.is(29, "the most there can be", s.misses(2, 0, 0), 48 * 99);
        due.is(29, "all alike: the first", s.misses(2, 0, 1), 0);
    }

    private static void missesOfSeveral() {
        SkinShow s = new SkinShow();
        for (int nerve = 0; nerve < 3; nerve++) {
            s.part(nerve == 1 ? MIRROR : BAG, nerve, 7, 9, nerve);
            s.nerve(nerve, 0, nerve + 2);
        }
        Due.line(s, 0, 50 - 7 * 4 + 1, 50 + 2 * 3, 50 - 7 * 9);
        due.is(29, "three GROUPS", s.misses(0, 234, 0), 1);
        due.is(29, "their PULLS", s.misses(0, 234, 1), 468);
        due.is(29, "in another order", s.misses(0, 423, 1), 846);
        due.is(29, "two of them", s.misses(0, 42, 1), 84);
        s.pull(3, 6);
        due.is(29, "with the third one as it is", s.misses(0, 42, 0), 1);
    }

    private static void searchesChangeNothing() {
        SkinShow s = new SkinShow();
        s.part(BAG, 0, 6, 9, 0);
        s.part(WHITE, 1, 6, 9, 0);
        s.pull(0, 4);
        s.tick(1);
        Due.line(s, 0, 5);
        s.hide(0, 0, 0);
        s.misses(0, 10, 0);
        due.is(28, "PULL", s.pull(0, 4), 4);
        due.is(28, "SIZE", s.told(0, 5), 2);
        due.is(28, "WAS", s.show(0, 1), 50);
        due.is(28, "the TICK", s.count(13), 1);
    }

    private static void half() {
        SkinShow s = new SkinShow();
        due.is(30, "ground -1", s.half(-1, 0), BAD);
        due.is(30, "ground 4", s.half(4, 0), BAD);
        due.is(30, "group -1", s.half(0, -1), BAD);
        due.is(30, "group 6", s.half(0, 6), BAD);
        due.is(30, "no PARTS", s.half(0, 0), 0);
        for (int place = 0; place < 8; place++) {
            s.part(place % 6, place, 0, 0, place % 3);
        }
        s.nerve(1, 0, 5);
        s.nerve(2, 0, 5);
        due.is(30, "none is lighter than all", s.half(1, 0), -3);
        due.is(30, "nor of GROUP 5", s.half(1, 5), -5);
        Due.line(s, 0, 51, 51, 50, 49, 99, 0, 60, 50);
        // how light: 2410 by 48 is 50; above it lie 0, 1, 4, 6
        due.is(30, "PARTS 0, 6 there, 3 elsewhere", s.half(0, 0), 1);
        due.is(30, "PARTS 1, 4 there, 2, 5, 7 elsewhere", s.half(0, 5), -1);
        due.is(30, "a GROUP without PARTS", s.half(0, 1), 0);
        s.dies(4);
        due.is(30, "DEAD ones, too", s.half(0, 5), -1);
    }
}
