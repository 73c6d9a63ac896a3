/** Promises 1 to 13: the skin. */
public final class SkinTest {
    private static final int BAD = Due.BAD, NO = Due.NO, FULL = Due.FULL, NONE = Due.NONE, KIND = Due.KIND;
    private static final int PART = 0, BAG = 1, MIRROR = 2, WHITE = 3, BUMP = 4, DEAD = 5;
    private static final Due due = new Due("SkinTest");

    public static void main(String[] args) {
        newObject();
        part();
        allPlaces();
        told();
        aimsHold();
        as();
        dies();
        nerve();
        pull();
        rule();
        show();
        heights();
        lightIsHeld();
        tick();
        tickFull();
        paces();
        rest();
        still();
        change();
        changeIsHeld();
        due.end();
    }

    private static void newObject() {
        SkinShow s = new SkinShow();
        for (int what = 0; what <= 13; what++) {
            due.is(1, "count(" + what + ") of a new one", s.count(what), 0);
        }
        for (int place = 0; place < 48; place++) {
            due.is(1, "LIGHT at first", s.show(place, 0), 50);
            due.is(1, "WAS at first", s.show(place, 1), 50);
            due.is(1, "no PART at first", s.show(place, 2), NONE);
        }
        for (int nerve = 0; nerve < 10; nerve++) {
            due.is(1, "GROUP at first", s.nerve(nerve, 0, 0), 0);
            due.is(1, "WEIGHT at first", s.nerve(nerve, 1, 5), 5);
        }
        for (int group = 0; group < 6; group++) {
            due.is(1, "PULL at first", s.pull(group, 0), 0);
            due.is(1, "no TEXT at first", s.why(group), NONE);
        }
        int[] rules = {50, 0, 20, 6};
        for (int what = 0; what < 4; what++) {
            due.is(1, "rule at first", s.rule(what, rules[what]), rules[what]);
        }
        for (int line = 0; line < 24; line++) {
            due.is(1, "LINES are MISSING at first", s.put(line, 0, 1), Due.NOTHING);
        }
        due.is(1, "no IMAGE at first", s.back(), NO);
    }

    private static void part() {
        SkinShow s = new SkinShow();
        int[][] bad = {
            {-1, 0, 0, 0, 0}, {6, 0, 0, 0, 0}, {0, -1, 0, 0, 0}, {0, 48, 0, 0, 0}, {0, 0, -1, 0, 0}, {0, 0, 10, 0, 0},
            {0, 0, 0, -1, 0}, {0, 0, 0, 10, 0}, {0, 0, 0, 0, -1}, {0, 0, 0, 0, 10}, {Due.LEAST, 0, 0, 0, 0},
            {0, Due.MOST, 0, 0, 0}, {0, 0, Due.LEAST, 0, 0}, {0, 0, 0, Due.MOST, 0}, {0, 0, 0, 0, Due.LEAST}};
        for (int[] b : bad) {
            due.is(2, "part out of its rims", s.part(b[0], b[1], b[2], b[3], b[4]), BAD);
        }
        due.is(2, "no PART came by BAD", s.count(0), 0);
        due.is(2, "the least", s.part(0, 0, 0, 0, 0), 0);
        due.is(2, "the most", s.part(5, 47, 9, 9, 9), 1);
        due.is(2, "a PLACE that is taken", s.part(1, 47, 1, 1, 1), NO);
        due.is(2, "BAD ahead of NO", s.part(1, 47, 10, 1, 1), BAD);
        due.is(2, "the PART there stays", s.told(1, 0), 5);
        due.is(2, "two", s.count(0), 2);
    }

    private static void allPlaces() {
        SkinShow s = new SkinShow();
        for (int place = 47; place >= 0; place--) {
            due.is(2, "a PART at each PLACE", s.part(PART, place, 0, 0, 0), 47 - place);
        }
        due.is(2, "no PLACE is left", s.part(PART, 5, 0, 0, 0), NO);
        due.is(2, "48 PARTS", s.count(0), 48);
        due.is(9, "the PART at PLACE 3", s.show(3, 2), 44);
        due.is(42, "none of them is a BAG", s.count(BAG), 0);
        due.is(12, "the way of 48", s.still(), 0);
        due.is(13, "the change of 48", s.change(), 0);
        due.is(10, "48 go on", s.tick(1), 1);
        due.is(11, "48 rest", s.rest(), 0);
        due.is(42, "48 SIZES", s.count(6), 0);
        due.is(40, "48 are kept", s.keep(), 1);
        due.is(39, "48 are told", s.check(1), 1);
        due.is(41, "48 are back", s.back(), 1);
        due.is(30, "48 lie elsewhere", s.half(0, 0), -48);
        due.is(28, "48 hide", s.hide(0, 0, 0), 0);
        due.is(36, "of 48 the first 29", s.kinds(-1), 1);
    }

    private static void told() {
        SkinShow s = new SkinShow();
        s.part(BUMP, 13, 7, 8, 3);
        s.nerve(3, 0, 4);
        s.nerve(3, 1, 6);
        s.pull(4, 9);
        s.tick(2);
        int[] want = {BUMP, 13, 7, 8, 3, 2, 4, 1, 2};
        for (int what = 0; what <= 8; what++) {
            due.is(3, "told(0, " + what + ")", s.told(0, what), want[what]);
        }
        due.is(3, "what -1", s.told(0, -1), BAD);
        due.is(3, "what 9", s.told(0, 9), BAD);
        due.is(3, "part -1", s.told(-1, 0), BAD);
        due.is(3, "part 1", s.told(1, 0), BAD);
        due.is(3, "far off", s.told(Due.MOST, Due.LEAST), BAD);
    }

    private static void aimsHold() {
        // PULL 7 times WEIGHT 9 by 5 is 12 (cut)
        int[] aim = {5, 5, 0, 5, 2, 0};
        int[] aimWide = {9, 9, 0, 9, 4, 0};
        // PULL 3 times WEIGHT 4 by 5 is 2 (cut)
        int[] aimWeak = {2, 2, 3, 5, 1, 0};
        int[] pace = {1, 1, 2, 9, 1, 0};
        for (int kind = PART; kind <= DEAD; kind++) {
            SkinShow s = new SkinShow();
            s.part(kind, 0, 4, 5, 0);
            s.part(kind, 1, 4, 9, 0);
            s.nerve(0, 1, 9);
            s.pull(0, 7);
            due.is(3, "AIM of KIND " + kind + ", SPAN 5", s.told(0, 6), aim[kind]);
            due.is(3, "AIM of KIND " + kind + ", SPAN 9", s.told(1, 6), aimWide[kind]);
            due.is(3, "PACE of KIND " + kind, s.told(0, 7), pace[kind]);
            s.nerve(0, 1, 4);
            s.pull(0, 3);
            due.is(3, "AIM of KIND " + kind + ", weak", s.told(0, 6), aimWeak[kind]);
        }
        SkinShow s = new SkinShow();
        s.part(BAG, 0, 5, 9, 0);
        s.part(BUMP, 1, 9, 9, 0);
        due.is(3, "PACE of a BAG of a 5", s.told(0, 7), 2);
        due.is(3, "PACE of a BUMP of a 9", s.told(1, 7), 1);
    }

    private static void as() {
        SkinShow s = new SkinShow();
        boolean[][] is = {
            {true, false, false, false, false, false}, {true, true, false, false, false, false},
            {true, false, true, false, false, false}, {true, false, true, true, false, false},
            {true, false, false, false, true, false}, {true, false, false, false, false, true}};
        for (int kind = PART; kind <= DEAD; kind++) {
            s.part(kind, kind, 3 + kind, 0, 0);
        }
        for (int part = 0; part <= 5; part++) {
            for (int kind = PART; kind <= DEAD; kind++) {
                due.is(4, "as(" + part + ", " + kind + ")", s.as(part, kind), is[part][kind] ? 3 + part : KIND);
            }
        }
        due.is(4, "part -1", s.as(-1, 0), BAD);
        due.is(4, "part 6", s.as(6, 0), BAD);
        due.is(4, "kind -1", s.as(0, -1), BAD);
        due.is(4, "kind 6", s.as(0, 6), BAD);
        s.dies(3);
        due.is(4, "a dead WHITE is no MIRROR", s.as(3, MIRROR), KIND);
        due.is(4, "a dead WHITE is DEAD", s.as(3, DEAD), 6);
    }

    private static void dies() {
        SkinShow s = new SkinShow();
        s.part(WHITE, 0, 7, 4, 2);
        s.part(DEAD, 1, 7, 4, 2);
        s.tick(1);
        due.is(5, "GIVES ahead", s.told(0, 8), 15);
        due.is(5, "dies", s.dies(0), 1);
        due.is(5, "again", s.dies(0), NO);
        due.is(5, "DEAD from the first", s.dies(1), NO);
        due.is(5, "part -1", s.dies(-1), BAD);
        due.is(5, "part 2", s.dies(2), BAD);
        int[] want = {DEAD, 0, 7, 4, 2, 4, 4, 0, 0};
        for (int what = 0; what <= 8; what++) {
            due.is(5, "told(0, " + what + ") of the dead", s.told(0, what), want[what]);
        }
        s.pull(0, 9);
        s.rest();
        due.is(5, "its SIZE stays", s.told(0, 5), 4);
        due.is(42, "DEAD ones", s.count(DEAD), 2);
        due.is(42, "WHITES", s.count(WHITE), 0);
    }

    private static void nerve() {
        SkinShow s = new SkinShow();
        int[][] bad = {{-1, 0, 0}, {10, 0, 0}, {0, -1, 1}, {0, 2, 1}, {0, 0, -1}, {0, 0, 6}, {0, 1, 0}, {0, 1, 10}};
        for (int[] b : bad) {
            due.is(6, "nerve out of its rims", s.nerve(b[0], b[1], b[2]), BAD);
        }
        due.is(6, "GROUP", s.nerve(9, 0, 5), 0);
        due.is(6, "GROUP again", s.nerve(9, 0, 0), 5);
        due.is(6, "WEIGHT", s.nerve(9, 1, 9), 5);
        due.is(6, "WEIGHT again", s.nerve(9, 1, 1), 9);
        due.is(6, "another one", s.nerve(8, 1, 5), 5);
        s.part(PART, 0, 0, 9, 9);
        s.pull(0, 9);
        due.is(6, "AIM by WEIGHT 1", s.told(0, 6), 1);
        s.nerve(9, 0, 1);
        due.is(6, "AIM by another GROUP", s.told(0, 6), 0);
    }

    private static void pull() {
        SkinShow s = new SkinShow();
        due.is(7, "group -1", s.pull(-1, 0), BAD);
        due.is(7, "group 6", s.pull(6, 0), BAD);
        due.is(7, "v -1", s.pull(0, -1), BAD);
        due.is(7, "v 10", s.pull(0, 10), BAD);
        due.is(7, "the most", s.pull(5, 9), 0);
        due.is(7, "what it was", s.pull(5, 0), 9);
        due.is(7, "the others", s.pull(0, 1), 0);
    }

    private static void rule() {
        SkinShow s = new SkinShow();
        int[] least = {0, 0, 1, 1};
        int[] most = {99, 9, 99, 48};
        int[] first = {50, 0, 20, 6};
        for (int what = 0; what < 4; what++) {
            due.is(8, "below the least of " + what, s.rule(what, least[what] - 1), BAD);
            due.is(8, "above the most of " + what, s.rule(what, most[what] + 1), BAD);
            due.is(8, "the least of " + what, s.rule(what, least[what]), first[what]);
            due.is(8, "the most of " + what, s.rule(what, most[what]), least[what]);
            due.is(8, "what it was of " + what, s.rule(what, first[what]), most[what]);
        }
        due.is(8, "what -1", s.rule(-1, 1), BAD);
        due.is(8, "what 4", s.rule(4, 1), BAD);
        due.is(8, "far off", s.rule(Due.MOST, Due.LEAST), BAD);
    }

    private static void show() {
        SkinShow s = new SkinShow();
        due.is(9, "place -1", s.show(-1, 0), BAD);
        due.is(9, "place 48", s.show(48, 0), BAD);
        due.is(9, "what -1", s.show(0, -1), BAD);
        due.is(9, "what 4", s.show(0, 4), BAD);
        s.part(BAG, 20, 3, 9, 0);
        s.part(MIRROR, 21, 3, 9, 0);
        s.part(WHITE, 22, 3, 9, 0);
        s.part(BUMP, 47, 3, 9, 0);
        s.part(DEAD, 0, 3, 9, 0);
        s.pull(0, 6);
        s.tick(2);
        int[] place = {20, 21, 22, 47, 0, 1};
        int[] light = {50 - 3 * 2, 50 + 2 * 3, 50 + 2 * 9 + 3, 50 + 2, 50, 50};
        int[] was = {50 - 3, 50 + 2 * 2, 50 + 2 * 9 + 3, 50 + 1, 50, 50};
        int[] part = {0, 1, 2, 3, 4, NONE};
        int[] height = {0, 0, 0, 2, 0, 0};
        for (int i = 0; i < place.length; i++) {
            due.is(9, "LIGHT of " + place[i], s.show(place[i], 0), light[i]);
            due.is(9, "WAS of " + place[i], s.show(place[i], 1), was[i]);
            due.is(9, "PART at " + place[i], s.show(place[i], 2), part[i]);
            due.is(9, "HEIGHT of " + place[i], s.show(place[i], 3), height[i]);
        }
    }

    private static void heights() {
        SkinShow s = new SkinShow();
        s.part(BUMP, 3, 0, 8, 0);
        s.part(BUMP, 11, 0, 2, 0);
        s.part(BUMP, 47, 0, 6, 0);
        s.pull(0, 9);
        s.rest();
        s.rule(1, 5);
        due.is(9, "in the upmost row", s.show(3, 0), 50 + 4 + 5 * 4);
        due.is(9, "below a higher one", s.show(11, 0), 50 + 1 + 5 * (1 - 4));
        due.is(9, "below a lower one", s.show(19, 0), 50 - 5);
        due.is(9, "beside it", s.show(4, 0), 50);
        due.is(9, "above it", s.show(39, 0), 50);
        due.is(9, "in the lowest row", s.show(47, 0), 50 + 3 + 5 * 3);
        SkinShow first = new SkinShow();
        first.part(BUMP, 0, 0, 8, 0);
        first.pull(0, 9);
        first.rest();
        first.rule(1, 5);
        due.is(9, "the first PLACE", first.show(0, 0), 50 + 4 + 5 * 4);
        due.is(9, "below the first PLACE", first.show(8, 0), 50 - 5 * 4);
        due.is(9, "the last of the upmost row", first.show(7, 0), 50);
        s.dies(0);
        due.is(9, "a dead BUMP has no HEIGHT", s.show(3, 3), 0);
        due.is(9, "nor does it GIVE", s.show(3, 0), 50);
        due.is(9, "nor shade", s.show(11, 0), 50 + 1 + 5);
    }

    private static void lightIsHeld() {
        SkinShow s = new SkinShow();
        s.part(BAG, 0, 9, 9, 0);
        s.part(WHITE, 1, 9, 9, 0);
        s.pull(0, 9);
        s.rest();
        due.is(9, "held at 0", s.show(0, 0), 0);
        s.rule(0, 99);
        due.is(9, "held at 99", s.show(1, 0), 99);
        due.is(9, "not held", s.show(0, 0), 18);
        s.rule(0, 72);
        due.is(9, "just 99", s.show(1, 0), 99);
        s.rule(0, 71);
        due.is(9, "just below", s.show(1, 0), 98);
    }

    private static void tick() {
        SkinShow s = new SkinShow();
        due.is(10, "n 0", s.tick(0), BAD);
        due.is(10, "n 61", s.tick(61), BAD);
        due.is(10, "n -1", s.tick(-1), BAD);
        due.is(10, "n far off", s.tick(Due.MOST), BAD);
        due.is(10, "n 1", s.tick(1), 1);
        due.is(10, "n 60", s.tick(60), 61);
        s.part(BAG, 7, 2, 9, 0);
        s.pull(0, 3);
        s.tick(2);
        due.is(10, "SIZE behind two", s.told(0, 5), 2);
        due.is(10, "WAS is the LIGHT ahead of the last", s.show(7, 1), 48);
        s.tick(1);
        due.is(10, "there", s.told(0, 5), 3);
        s.tick(1);
        due.is(10, "and no further", s.told(0, 5), 3);
        due.is(10, "WAS at rest", s.show(7, 1), 44);
        s.pull(0, 1);
        s.tick(1);
        due.is(10, "and back", s.told(0, 5), 2);
        s.rule(0, 60);
        s.tick(1);
        due.is(10, "WAS with TONE as it is ahead", s.show(7, 1), 56);
    }

    private static void tickFull() {
        SkinShow s = new SkinShow();
        for (int i = 1; i <= 166; i++) {
            due.is(10, "sixty more", s.tick(60), 60 * i);
        }
        due.is(10, "beyond 9999", s.tick(40), FULL);
        due.is(10, "BAD ahead of FULL", s.tick(61), BAD);
        due.is(10, "up to 9999", s.tick(39), 9999);
        due.is(10, "one more", s.tick(1), FULL);
        due.is(10, "it stays", s.count(13), 9999);
    }

    private static void paces() {
        SkinShow s = new SkinShow();
        s.part(PART, 0, 9, 9, 0);
        s.part(BAG, 1, 4, 9, 0);
        s.part(BAG, 2, 5, 9, 0);
        s.part(MIRROR, 3, 9, 9, 1);
        s.part(WHITE, 4, 9, 9, 0);
        s.part(BUMP, 5, 9, 9, 0);
        s.part(DEAD, 6, 9, 9, 0);
        s.nerve(1, 0, 1);
        s.pull(0, 9);
        int[][] size = {{1, 1, 2, 2, 9, 1, 0}, {2, 2, 4, 4, 9, 2, 0}, {5, 5, 9, 9, 9, 4, 0}, {9, 9, 9, 9, 9, 4, 0}};
        int[] ticks = {1, 1, 3, 9};
        for (int i = 0; i < ticks.length; i++) {
            s.tick(ticks[i]);
            for (int part = 0; part <= 6; part++) {
                due.is(10, "SIZE of " + part + " in round " + i, s.told(part, 5), size[i][part]);
            }
        }
        s.pull(0, 0);
        s.pull(1, 9);
        s.tick(1);
        int[] back = {8, 8, 7, 7, 9, 3, 0};
        for (int part = 0; part <= 6; part++) {
            due.is(10, "SIZE of " + part + " on its way back", s.told(part, 5), back[part]);
        }
    }

    private static void rest() {
        SkinShow s = new SkinShow();
        due.is(11, "without PARTS", s.rest(), 0);
        s.part(BAG, 7, 2, 9, 0);
        s.part(WHITE, 8, 2, 9, 0);
        s.part(MIRROR, 9, 2, 0, 0);
        s.part(DEAD, 10, 2, 9, 0);
        s.pull(0, 4);
        s.tick(1);
        due.is(11, "one is on its way", s.rest(), 1);
        due.is(11, "SIZE", s.told(0, 5), 4);
        due.is(11, "the TICK stays", s.count(13), 1);
        due.is(11, "LIGHT", s.show(7, 0), 42);
        due.is(11, "WAS as LIGHT behind it", s.show(7, 1), 42);
        due.is(11, "WAS elsewhere", s.show(8, 1), 70);
        s.rule(0, 0);
        due.is(11, "again", s.rest(), 0);
        due.is(11, "WAS with the new TONE", s.show(20, 1), 0);
        s.pull(0, 5);
        s.dies(0);
        due.is(11, "a dead one", s.rest(), 0);
    }

    private static void still() {
        SkinShow s = new SkinShow();
        due.is(12, "without PARTS", s.still(), 0);
        s.part(WHITE, 0, 0, 9, 0);
        due.is(12, "a WHITE", s.still(), 1);
        s.part(MIRROR, 1, 0, 9, 0);
        due.is(12, "a MIRROR: 9 by 2", s.still(), 5);
        s.part(BAG, 2, 4, 9, 1);
        s.nerve(1, 0, 1);
        s.pull(1, 8);
        due.is(12, "a BAG: 8 by 1", s.still(), 8);
        s.dies(2);
        due.is(12, "without the dead one", s.still(), 5);
        s.tick(4);
        due.is(12, "one more", s.still(), 1);
        s.tick(1);
        due.is(12, "AT REST", s.still(), 0);
        due.is(12, "it changes nothing", s.count(13), 5);
        s.pull(0, 9);
        due.is(12, "back", s.still(), 5);
    }

    private static void change() {
        SkinShow s = new SkinShow();
        due.is(13, "without PARTS", s.change(), 0);
        s.part(BAG, 0, 4, 9, 0);
        s.pull(0, 9);
        due.is(13, "a BAG of a 4: 4 a TICK", s.change(), 4);
        s.part(BAG, 1, 5, 9, 0);
        due.is(13, "of a 5: 10 a TICK", s.change(), 10);
        s.part(WHITE, 2, 0, 9, 0);
        due.is(13, "a WHITE", s.change(), 18);
        due.is(13, "nothing moved", s.count(6), 0);
        due.is(13, "WAS stays", s.show(2, 1), 50);
        due.is(13, "the TICK, too", s.count(13), 0);
        s.tick(1);
        due.is(13, "without the WHITE, which is there", s.change(), 10);
        s.rest();
        due.is(13, "AT REST", s.change(), 0);
        s.pull(0, 0);
        due.is(13, "back", s.change(), 10);
    }

    private static void changeIsHeld() {
        SkinShow s = new SkinShow();
        s.part(BAG, 0, 9, 9, 0);
        s.pull(0, 9);
        s.rule(0, 20);
        due.is(13, "18, then held", s.change(), 18);
        s.rule(0, 5);
        due.is(13, "held at once", s.change(), 5);
        SkinShow late = new SkinShow();
        late.part(MIRROR, 0, 0, 9, 0);
        late.rest();
        late.rule(0, 90);
        late.pull(0, 9);
        // without the hold: 108, 104, 100, 96, 92, 90
        due.is(13, "the most is in the fourth TICK", late.change(), 4);
        late.rule(0, 81);
        due.is(13, "the most is in any but the last", late.change(), 4);
        late.tick(4);
        due.is(13, "what is left", late.change(), 2);
    }
}
