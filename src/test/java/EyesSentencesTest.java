/** The sentences of part 4 of the Terms on eyes, and of promises 26 to 30, that name a boundary case. */
public final class EyesSentencesTest {
    private static final int BAD = Due.BAD, NONE = Due.NONE;
    private static final int BAG = 1, MIRROR = 2, WHITE = 3, BUMP = 4;
    private static final int TONE = 0, ABOVE = 1, EDGE = 2, TELLS = 3;

    public static void main(String[] args) {
        termsOfBeasts();
        termsOfHanging();
        termsOfTheBeast();
        termsOfTells();
        hidingWithGroups();
        hidingByAllPulls();
        hidingOfThree();
        hidingAtRest();
        hidingWasAsLight();
        hidingByTheEye();
        hidingTheFirst();
        hidingFarLights();
        missesLikewise();
        missesOfAll();
        halves();
        halvesOfAGroup();
        seen();
        seenBad();
        beast();
        beastOfNothing();
        beastBad();
        hide();
        hideGroups();
        hideBad();
        misses();
        missesBad();
        half();
        halfBad();
        Sentence.end("EyesSentencesTest");
    }

    /** A ground 1 that is seen at the given PLACES alone, by the text that goes by the GROUND. */
    private static SkinShow spotted(int... places) {
        SkinShow s = new SkinShow();
        Due.text(s, 0, "eye g");
        Due.shade(s, 1, 0);
        for (int place : places) {
            s.put(6 + place / 8, place % 8, 1);
        }
        return s;
    }

    private static void beasts(Sentence it, String what, int all, int most, int first, int many, int... places) {
        SkinShow s = spotted(places);
        it.is(what + ": how many are SEEN", s.beast(1, 0), all);
        it.is(what + ": how many has THE BEAST", s.beast(1, 1), most);
        it.is(what + ": its least PLACE", s.beast(1, 2), first);
        it.is(what + ": how many BEASTS", s.beast(1, 4), many);
    }

    // ---- Terms, part 4: beasts

    private static void termsOfBeasts() {
        Sentence it = Sentence.terms(4, "A BEAST on a GROUND: PLACES that are SEEN and hang together (by x or y);");
        beasts(it, "nothing", 0, 0, NONE, 0);
        for (int place = 0; place < 48; place++) {
            beasts(it, "PLACE " + place, 1, 1, place, 1, place);
            if (place % 8 < 7) {
                beasts(it, "two by x", 2, 2, place, 1, place, place + 1);
            } else if (place < 47) {
                beasts(it, "the end of a row, and the begin of the next", 2, 1, place, 2, place, place + 1);
            }
            if (place < 40) {
                beasts(it, "two by y", 2, 2, place, 1, place, place + 8);
            }
            if (place < 39) {
                beasts(it, "two aslant", 2, 1, place, 2, place, place + 9);
            }
        }
        beasts(it, "the last PLACE", 1, 1, 47, 1, 47);
        beasts(it, "two by x", 2, 2, 46, 1, 46, 47);
        beasts(it, "two by y", 2, 2, 39, 1, 39, 47);
        beasts(it, "two by y at the first", 2, 2, 0, 1, 0, 8);
        beasts(it, "two aslant, down to the right", 2, 1, 0, 2, 0, 9);
        beasts(it, "two aslant, down to the left", 2, 1, 1, 2, 1, 8);
        beasts(it, "the end of a row, and the begin of the next", 2, 1, 7, 2, 7, 8);
        beasts(it, "with one between them", 2, 1, 0, 2, 0, 2);
        beasts(it, "with one between them, by y", 2, 1, 0, 2, 0, 16);
        int[] all = new int[48];
        for (int place = 0; place < 48; place++) {
            all[place] = place;
        }
        beasts(it, "all of them", 48, 48, 0, 1, all);
        int[] board = new int[24];
        for (int i = 0; i < 24; i++) {
            board[i] = 2 * i + i / 4 % 2;
        }
        beasts(it, "every second one", 24, 1, 0, 24, board);
    }

    private static void termsOfHanging() {
        Sentence it = Sentence.terms(4, "hang together (by x or y)");
        // as a snake, as a ring, as a comb
        beasts(it, "a snake", 12, 12, 0, 1, 0, 1, 2, 10, 18, 17, 16, 24, 32, 33, 34, 35);
        beasts(it, "a ring, and one by its corner", 9, 8, 9, 2, 9, 10, 11, 17, 19, 25, 26, 27, 36);
        beasts(it, "a ring round one", 17, 16, 0, 2, 0, 1, 2, 3, 4, 8, 12, 16, 20, 24, 28, 32, 33, 34, 35, 36, 18);
        beasts(it, "a comb, which hangs at its last row", 16, 16, 1, 1, 1, 9, 17, 3, 11, 19, 5, 13, 21, 25, 26, 27, 28, 29,
            30, 31);
        beasts(it, "two arms that meet at the rim", 13, 13, 6, 1, 6, 7, 15, 23, 31, 39, 47, 46, 45, 44, 36, 28, 27);
    }

    private static void termsOfTheBeast() {
        Sentence it = Sentence.terms(4, "THE BEAST: the one of the most PLACES, of several that with the least PLACE.");
        beasts(it, "one and two", 3, 2, 46, 2, 0, 46, 47);
        beasts(it, "two and one", 3, 2, 0, 2, 0, 1, 47);
        beasts(it, "two of two", 4, 2, 0, 2, 0, 1, 46, 47);
        beasts(it, "two of two, the one by y is the first", 4, 2, 3, 2, 3, 11, 8, 9);
        beasts(it, "one, two of three", 7, 3, 5, 3, 2, 5, 13, 21, 40, 41, 42);
        beasts(it, "the greater one has the last PLACE", 5, 3, 37, 3, 0, 2, 37, 45, 44);
    }

    private static void termsOfTells() {
        Sentence it = Sentence.terms(4, "TAKEN for one: if it has TELLS (1 .. 48; 6 at first) PLACES or more.");
        it.is("five, 6 at first", spotted(0, 1, 2, 3, 4).beast(1, 3), 0);
        it.is("six, 6 at first", spotted(0, 1, 2, 3, 4, 5).beast(1, 3), 1);
        it.is("seven, 6 at first", spotted(0, 1, 2, 3, 4, 5, 6).beast(1, 3), 1);
        it.is("six SEEN, but five in one", spotted(0, 1, 2, 3, 4, 6).beast(1, 3), 0);
        SkinShow none = spotted();
        none.rule(TELLS, 1);
        it.is("nothing SEEN, by 1", none.beast(1, 3), 0);
        SkinShow one = spotted(20);
        one.rule(TELLS, 1);
        it.is("one by 1", one.beast(1, 3), 1);
        one.rule(TELLS, 2);
        it.is("one by 2", one.beast(1, 3), 0);
        SkinShow all = new SkinShow();
        Due.text(all, 0, "eye 1");
        all.rule(TELLS, 48);
        it.is("48 by 48", all.beast(1, 3), 1);
        Due.text(all, 0, "eye g");
        all.line(23, 0, 1);
        it.is("47 by 48", all.beast(3, 3), 0);
        all.rule(TELLS, 47);
        it.is("47 by 47", all.beast(3, 3), 1);
        it.refusesOutside("TELLS", 1, 48, v -> all.rule(TELLS, v), BAD);
    }

    // ---- Terms, part 4: hiding

    /** A BAG by GROUP 1, one by GROUP 2, one by GROUP 3, of LIGHT 50 less their PULLS, at PLACES 0, 1, 2; d is seen. */
    private static SkinShow three(int one, int two, int other) {
        SkinShow s = new SkinShow();
        for (int i = 0; i < 3; i++) {
            s.part(BAG, i, 1, 9, i);
            s.nerve(i, 0, i + 1);
        }
        Due.text(s, 0, "eye d");
        Due.line(s, 0, 50 - one, 50 - two, 50 - other);
        return s;
    }

    private static void hidingWithGroups() {
        Sentence it = Sentence.terms(4, "HIDING with k (1 .. 3) GROUPS (told as digits):");
        SkinShow s = three(3, 5, 7);
        it.is("with none that does anything", s.hide(0, 0, 0), 3);
        it.is("with one", s.hide(0, 1, 0), 2);
        it.is("with one, its PULL", s.hide(0, 1, 1), 3);
        it.is("with another one", s.hide(0, 3, 1), 7);
        it.is("with two", s.hide(0, 12, 0), 1);
        it.is("with two, their PULLS", s.hide(0, 12, 1), 35);
        it.is("with two, told the other way", s.hide(0, 21, 1), 53);
        it.is("with three", s.hide(0, 123, 0), 0);
        it.is("with three, their PULLS", s.hide(0, 123, 1), 357);
        it.is("with three, told in another way", s.hide(0, 312, 1), 735);
        it.is("with one that does nothing ahead", s.hide(0, 512, 1), 35);
        it.is("with one that does nothing behind", s.hide(0, 120, 1), 350);
        it.is("with four: none", s.hide(0, 1230, 0), BAD);
        SkinShow zero = three(3, 5, 7);
        zero.nerve(2, 0, 0);
        it.is("with 0 alone", zero.hide(0, 0, 1), 7);
        it.is("with 1 and 0", zero.hide(0, 10, 1), 37);
        it.is("with 1 and 0, how many", zero.hide(0, 10, 0), 1);
        it.is("with 2, 1 and 0", zero.hide(0, 210, 1), 537);
        it.is("with 1, 0 and 2", zero.hide(0, 102, 1), 375);
    }

    private static void hidingByAllPulls() {
        Sentence it = Sentence.terms(4, "of all PULLS of these (0 .. 9 each, others as they are)");
        for (int pull = 0; pull <= 9; pull++) {
            SkinShow s = three(pull, 0, 0);
            it.is("the PULL " + pull, s.hide(0, 1, 1), pull);
            it.is("none is SEEN by it", s.hide(0, 1, 0), 0);
        }
        for (int best = 0; best <= 9; best++) {
            for (int is = 0; is <= 9; is++) {
                SkinShow s = three(best, 0, 0);
                s.pull(1, is);
                s.rest();
                it.is("the PULL " + best + ", from one that is AT REST by " + is, s.hide(0, 1, 1), best);
                it.is("the PULL " + best + " of misses, from one that is AT REST by " + is, s.misses(0, 1, 1), best);
            }
        }
        SkinShow s = three(4, 6, 0);
        it.is("the other one as it is: not pulled", s.hide(0, 1, 0), 1);
        s.pull(2, 6);
        it.is("the other one as it is: pulled", s.hide(0, 1, 0), 0);
        s.pull(3, 1);
        it.is("and another one", s.hide(0, 1, 0), 1);
        it.is("its own PULL does not count", s.hide(0, 31, 1), 4);
        s.pull(1, 9);
        it.is("nor does this one's", s.hide(0, 1, 1), 4);
    }

    private static void hidingOfThree() {
        Sentence it = Sentence.terms(4, "of all PULLS of these (0 .. 9 each");
        int[][] wanted = {{0, 0, 0}, {0, 0, 9}, {0, 9, 0}, {9, 0, 0}, {9, 9, 9}, {0, 1, 0}, {9, 0, 9}, {8, 9, 8}};
        for (int[] w : wanted) {
            SkinShow s = three(w[0], w[1], w[2]);
            it.is("three", s.hide(0, 123, 1), 100 * w[0] + 10 * w[1] + w[2]);
            it.is("none is SEEN", s.hide(0, 123, 0), 0);
            it.is("two", s.hide(0, 32, 1), 10 * w[2] + w[1]);
        }
    }

    private static void hidingAtRest() {
        Sentence it = Sentence.terms(4, "AT REST, WAS as LIGHT: the one by which");
        SkinShow s = three(9, 0, 0);
        it.is("SIZES are far from there", s.hide(0, 1, 1), 9);
        s.pull(1, 9);
        s.rest();
        s.part(MIRROR, 3, 0, 9, 0);
        Due.line(s, 0, 46, 50, 50, 60);
        // AT REST by PULL 4 the BAG is at 46, and the MIRROR at 50 and twice 5
        it.is("they would go back, and forth", s.hide(0, 1, 1), 4);
        it.is("none is SEEN there", s.hide(0, 1, 0), 0);
        s.dies(0);
        it.is("a DEAD one keeps its SIZE", s.hide(0, 1, 0), 1);
        it.is("the first by which the MIRROR is right", s.hide(0, 1, 1), 4);
    }

    private static void hidingWasAsLight() {
        Sentence it = Sentence.terms(4, "WAS as LIGHT");
        SkinShow s = new SkinShow();
        s.part(BAG, 0, 9, 9, 0);
        Due.text(s, 0, "eye m");
        s.rule(TONE, 70);
        it.is("all moved by the TONE", s.beast(0, 0), 48);
        it.is("but none does when hiding", s.hide(0, 0, 0), 0);
        it.is("by the first PULL", s.hide(0, 0, 1), 0);
        it.is("WAS stays as it is", s.show(0, 1), 50);
    }

    private static void hidingByTheEye() {
        Sentence it = Sentence.terms(4, "the one by which the fewest PLACES are SEEN on a GROUND;");
        SkinShow s = new SkinShow();
        s.part(BAG, 20, 1, 9, 0);
        Due.line(s, 8, 50, 50, 50, 50, 31);
        // without a TEXT: d above 9, so LIGHT 40 and less would be right, and 41 is the least there is
        it.is("without a TEXT", s.hide(1, 0, 0), 1);
        s.put(8, 4, 32);
        it.is("without a TEXT: d 9 by PULL 9", s.hide(1, 0, 1), 9);
        it.is("without a TEXT: d 9 by PULL 9", s.hide(1, 0, 0), 0);
        s.rule(EDGE, 9);
        Due.text(s, 0, "eye c<1");
        it.is("c by EDGE: five have one by PULL 9 alone", s.hide(0, 0, 0), 43);
        it.is("c by EDGE, the PULL", s.hide(0, 0, 1), 9);
        s.rule(EDGE, 8);
        it.is("c by a lower EDGE, the PULL", s.hide(0, 0, 1), 8);
        Due.text(s, 1, "eye 1");
        it.is("not by a TEXT of the next TICK", s.hide(0, 0, 0), 43);
        s.tick(1);
        it.is("by the TEXT that counts", s.hide(0, 0, 0), 48);
        Due.text(s, 1, "eye d&g=31|d&g=32");
        it.is("by the GROUND told", s.hide(1, 0, 0), 1);
        it.is("by another GROUND", s.hide(0, 0, 0), 0);
    }

    private static void hidingTheFirst() {
        Sentence it = Sentence.terms(4, "of several the first (the first told GROUP's PULL the least, then the next one's).");
        SkinShow s = three(0, 0, 0);
        Due.text(s, 0, "eye 1");
        it.is("all alike", s.hide(0, 1, 1), 0);
        it.is("all alike, of two", s.hide(0, 21, 1), 0);
        it.is("all alike, of three", s.hide(0, 321, 1), 0);
        it.is("all alike: how many", s.hide(0, 321, 0), 48);
        // a BAG that is drawn by two GROUPS' PULLS in turn: both can hide the one PLACE
        SkinShow both = new SkinShow();
        both.part(BAG, 0, 4, 9, 0);
        both.part(BAG, 1, 4, 9, 1);
        both.nerve(0, 0, 4);
        both.nerve(1, 0, 5);
        Due.line(both, 0, 30, 30);
        // d at most 9: SIZES 3 to 7 each
        it.is("the least of each", both.hide(0, 45, 1), 33);
        it.is("of three", both.hide(0, 405, 1), 303);
        it.is("of three", both.hide(0, 450, 1), 330);
        Due.text(both, 0, "eye g<50&(d>9)&!c");
        both.rule(EDGE, 16);
        // a PLACE of the two that has an edge is not SEEN either: one PULL of 4 is enough
        it.is("the first GROUP's is the least: 0, then 4", both.hide(0, 45, 1), 4);
        it.is("told the other way: 0, then 4", both.hide(0, 54, 1), 4);
        it.is("none is SEEN", both.hide(0, 54, 0), 0);
    }

    private static void hidingFarLights() {
        Sentence it = Sentence.terms(4, "of all PULLS of these (0 .. 9 each, others as they are), AT REST, WAS as LIGHT: "
            + "the one by which the fewest PLACES are SEEN on a GROUND");
        SkinShow s = new SkinShow();
        for (int place = 0; place < 48; place++) {
            s.part((place / 8 + place % 8) % 2 == 0 ? WHITE : BAG, place, 9, 9, 0);
        }
        Due.shade(s, 0, 0);
        Due.text(s, 0, "eye d");
        s.rule(TONE, 75);
        // WHITES at 99, BAGS at 0 by PULL 9 alone
        it.is("99 and 0 side by side", s.hide(0, 0, 0), 24);
        it.is("99 and 0 side by side, the PULL", s.hide(0, 0, 1), 9);
        s.rule(TONE, 82);
        it.is("99 and 1 side by side: none is hidden", s.hide(0, 0, 0), 48);
        it.is("so the first PULL", s.hide(0, 0, 1), 0);
        SkinShow dark = new SkinShow();
        for (int place = 0; place < 48; place++) {
            dark.part((place / 8 + place % 8) % 2 == 0 ? BAG : WHITE, place, 9, 9, 0);
        }
        Due.text(dark, 0, "eye d");
        dark.rule(TONE, 75);
        Due.shade(dark, 0, 99);
        it.is("0 at the first PLACE", dark.hide(0, 0, 0), 24);
        Due.shade(dark, 0, 0);
        it.is("0 at the first PLACE, the PULL", dark.hide(0, 0, 1), 9);
        SkinShow bump = new SkinShow();
        bump.part(BUMP, 0, 0, 9, 0);
        bump.rule(ABOVE, 9);
        Due.line(bump, 0, 70);
        Due.line(bump, 1, 32);
        // SIZES 0, 0, 1, 1, 2, 2, ..: LIGHT 70 and 32 by SIZE 2
        Due.text(bump, 0, "eye d");
        it.is("by HEIGHTS, at its own PLACE and below", bump.hide(0, 0, 0), 0);
        it.is("by HEIGHTS, the PULL", bump.hide(0, 0, 1), 4);
    }

    private static void missesLikewise() {
        Sentence it = Sentence.terms(4, "MISSES likewise: the one by which the sizes of the differences of LIGHT and GROUND "
            + "are together least.");
        for (int pull = 0; pull <= 9; pull++) {
            SkinShow s = three(pull, 0, 0);
            it.is("the PULL " + pull, s.misses(0, 1, 1), pull);
            it.is("by nothing", s.misses(0, 1, 0), 0);
        }
        int[][] wanted = {{0, 0, 0}, {0, 0, 9}, {0, 9, 0}, {9, 0, 0}, {9, 9, 9}, {3, 5, 7}, {9, 0, 9}, {8, 9, 8}};
        for (int[] w : wanted) {
            SkinShow s = three(w[0], w[1], w[2]);
            it.is("three", s.misses(0, 123, 1), 100 * w[0] + 10 * w[1] + w[2]);
            it.is("three by nothing", s.misses(0, 123, 0), 0);
            it.is("two", s.misses(0, 13, 1), 10 * w[0] + w[2]);
            it.is("two miss the third", s.misses(0, 13, 0), w[1]);
            s.pull(2, w[1]);
            it.is("others as they are", s.misses(0, 31, 0), 0);
        }
        SkinShow s = new SkinShow();
        s.part(BAG, 0, 2, 9, 0);
        // LIGHT 50, 48, .. 32: on 45 both 46 and 44 miss by 1
        Due.line(s, 0, 45);
        it.is("of several the first", s.misses(0, 0, 1), 2);
        it.is("by 1", s.misses(0, 0, 0), 1);
        it.is("all alike", s.misses(0, 543, 1), 0);
        s.pull(0, 9);
        it.is("AT REST, as it is pulled", s.misses(0, 543, 0), 13);
        Due.text(s, 0, "eye 1");
        it.is("whatever the eye sees", s.misses(0, 0, 0), 1);
    }

    private static void missesOfAll() {
        Sentence it = Sentence.terms(4, "the sizes of the differences of LIGHT and GROUND are together least");
        SkinShow s = new SkinShow();
        Due.shade(s, 0, 99);
        s.rule(TONE, 0);
        it.is("48 times 99 too dark", s.misses(0, 0, 0), 4752);
        Due.shade(s, 0, 0);
        s.rule(TONE, 99);
        it.is("48 times 99 too light", s.misses(0, 0, 0), 4752);
        it.is("by the first PULLS", s.misses(0, 102, 1), 0);
        it.is("on a GROUND without LINES", s.misses(3, 0, 0), 48 * 49);
        // lighter ones and darker ones do not make up for one another
        SkinShow both = new SkinShow();
        both.part(BAG, 0, 9, 9, 0);
        both.part(MIRROR, 1, 9, 9, 0);
        both.pull(0, 9);
        Due.line(both, 0, 50, 68);
        it.is("both by PULL 0", both.misses(0, 0, 0), 0);
        Due.line(both, 0, 49, 69);
        it.is("by 1 each", both.misses(0, 0, 0), 2);
    }

    // ---- Terms, part 4: halves

    private static void halves() {
        Sentence it = Sentence.terms(4, "HALVES of a GROUND: the PLACES that are lighter than how light it is;");
        SkinShow s = new SkinShow();
        s.part(0, 0, 0, 0, 0);
        it.is("just as light as all", s.half(0, 0), -1);
        Due.line(s, 0, 51);
        it.is("51 where all is 50", s.half(0, 0), 1);
        s.put(0, 0, 50);
        it.is("50 where all is 50", s.half(0, 0), -1);
        Due.line(s, 0, 50, 49);
        it.is("50 where all is 49 (cut)", s.half(0, 0), 1);
        s.rule(TONE, 0);
        it.is("by the GROUND, not by LIGHT", s.half(0, 0), 1);
        Due.shade(s, 1, 99);
        it.is("99 where all is 99", s.half(1, 0), -1);
        s.put(6, 1, 98);
        it.is("99 where all is 98 (cut)", s.half(1, 0), 1);
        Due.shade(s, 2, 0);
        it.is("0 where all is 0", s.half(2, 0), -1);
    }

    private static void halvesOfAGroup() {
        Sentence it = Sentence.terms(4, "of a GROUP: how many PARTS of it (by their NERVES; DEAD ones, too) lie there less "
            + "those that lie elsewhere.");
        SkinShow s = new SkinShow();
        Due.line(s, 0, 90, 90, 90, 90);
        for (int place = 0; place < 8; place++) {
            s.part(place % 6, place, 0, 0, place);
        }
        it.is("four there, four elsewhere", s.half(0, 0), 0);
        s.nerve(7, 0, 5);
        it.is("four there, three elsewhere", s.half(0, 0), 1);
        it.is("one elsewhere", s.half(0, 5), -1);
        s.nerve(0, 0, 5);
        it.is("one there, one elsewhere", s.half(0, 5), 0);
        s.dies(0);
        s.dies(7);
        it.is("DEAD ones, too", s.half(0, 5), 0);
        it.is("DEAD ones of the others", s.half(0, 0), 0);
        it.is("of a GROUP without PARTS", s.half(0, 3), 0);
        SkinShow all = new SkinShow();
        for (int place = 0; place < 48; place++) {
            all.part(5, place, 0, 0, 9);
        }
        it.is("48 elsewhere", all.half(3, 0), -48);
        Due.line(all, 0, 0);
        it.is("47 there, one elsewhere", all.half(0, 0), 46);
    }

    // ---- Promises 26 to 30

    private static void seen() {
        Sentence it = Sentence.of(26, "Whether a PLACE is SEEN on a GROUND: 1, 0.");
        SkinShow s = spotted(0, 47, 20);
        for (int place = 0; place < 48; place++) {
            it.is("PLACE " + place, s.seen(1, place), place == 0 || place == 47 || place == 20 ? 1 : 0);
        }
        s.line(0, 0, 1);
        s.line(23, 0, 8);
        it.is("on GROUND 0", s.seen(0, 0), 0);
        it.is("on GROUND 0", s.seen(0, 47), 1);
        it.is("on GROUND 3", s.seen(3, 0), 1);
        it.is("on GROUND 3", s.seen(3, 47), 0);
    }

    private static void seenBad() {
        Sentence it = Sentence.of(26, "BAD.");
        Twins.unchanged(it, "seen by BAD", s -> {
            it.refusesOutside("ground", 0, 3, ground -> s.seen(ground, 0), BAD);
            it.refusesOutside("place", 0, 47, place -> s.seen(0, place), BAD);
        });
    }

    private static void beast() {
        Sentence it = Sentence.of(27, "Of a GROUND: what 0 how many PLACES are SEEN, 1 how many has THE BEAST "
            + "(0: nothing is SEEN),");
        SkinShow s = spotted(3, 8, 9, 10, 11, 12, 47);
        it.is("how many are SEEN", s.beast(1, 0), 7);
        it.is("how many has THE BEAST", s.beast(1, 1), 6);
        it.is("its least PLACE", s.beast(1, 2), 3);
        Sentence rest = Sentence.of(27, "3 whether it is TAKEN for one (1, 0), 4 how many BEASTS there are.");
        rest.is("TAKEN", s.beast(1, 3), 1);
        rest.is("how many BEASTS", s.beast(1, 4), 2);
        s.rule(TELLS, 7);
        rest.is("not TAKEN", s.beast(1, 3), 0);
        Twins.unchanged(rest, "asking for BEASTS", twin -> {
            for (int what = 0; what <= 4; what++) {
                twin.beast(what % 4, what);
            }
        });
    }

    private static void beastOfNothing() {
        Sentence it = Sentence.of(27, "2 its least PLACE (NONE: nothing is SEEN),");
        SkinShow s = spotted(20);
        int[] nothing = {0, 0, NONE, 0, 0};
        int[] one = {1, 1, 20, 0, 1};
        for (int round = 0; round < 2; round++) {
            for (int what = 0; what <= 4; what++) {
                it.is("something", s.beast(1, what), one[what]);
            }
            Due.shade(s, 0, 0);
            for (int what = 0; what <= 4; what++) {
                it.is("nothing", s.beast(0, what), nothing[what]);
            }
        }
    }

    private static void beastBad() {
        Sentence it = Sentence.of(27, "BAD.");
        Twins.unchanged(it, "beast by BAD", s -> {
            it.refusesOutside("ground", 0, 3, ground -> s.beast(ground, 0), BAD);
            it.refusesOutside("what", 0, 4, what -> s.beast(0, what), BAD);
        });
    }

    private static void hide() {
        Sentence it = Sentence.of(28, "what 0 how many PLACES are SEEN, 1 the PULLS (as digits likewise).");
        SkinShow s = three(0, 5, 0);
        it.is("how many", s.hide(0, 12, 0), 0);
        it.is("the PULLS: the first is 0", s.hide(0, 12, 1), 5);
        it.is("the PULLS: the last is 0", s.hide(0, 21, 1), 50);
        it.is("the PULLS: the first and the last are 0", s.hide(0, 321, 1), 50);
        it.is("the PULLS of three", s.hide(0, 213, 1), 500);
        // asked again by another TEXT, with other searches at another LIGHT between
        for (int between = 0; between <= 8; between++) {
            for (int first = 0; first <= 1; first++) {
                SkinShow again = new SkinShow();
                Due.text(again, 0, "eye " + first);
                it.is("the first time", again.hide(0, 0, 0), 48 * first);
                again.rule(TONE, 60);
                for (int i = 0; i < between; i++) {
                    it.is("between", again.hide(0, 0, 0), 48 * first);
                }
                again.rule(TONE, 50);
                Due.text(again, 0, "eye " + (1 - first));
                it.is("asked again behind " + between, again.hide(0, 0, 0), 48 - 48 * first);
                it.is("and once more", again.hide(3, 0, 0), 48 - 48 * first);
            }
        }
        Twins.unchanged(it, "hiding", twin -> {
            twin.hide(0, 0, 0);
            twin.hide(1, 12, 1);
            twin.hide(2, 210, 0);
        });
    }

    private static void hideGroups() {
        Sentence it = Sentence.of(28, "HIDING on a GROUND with GROUPS (their digits, the first told the highest: 1 to 3 "
            + "unlike digits 0 .. 5, the first not 0, but where it is the only one):");
        for (int from = -12; from < 1400; from += 200) {
            SkinShow s = new SkinShow();
            for (int groups = from; groups < from + 200; groups++) {
                it.is("GROUPS " + groups, s.hide(0, groups, 1), isTold(groups) ? 0 : BAD);
                it.is("GROUPS " + groups + " of misses", s.misses(0, groups, 1), isTold(groups) ? 0 : BAD);
            }
        }
        int[] far = {Due.LEAST, Due.MOST, 5432, 10000, 543210, -543, Due.LEAST + 1, 1 << 16, (1 << 16) + 5};
        for (int groups : far) {
            it.is("GROUPS " + groups, new SkinShow().hide(0, groups, 0), BAD);
        }
    }

    private static boolean isTold(int groups) {
        String digits = Integer.toString(groups);
        if (digits.length() > 3) {
            return false;
        }
        for (int i = 0; i < digits.length(); i++) {
            boolean one = "012345".indexOf(digits.charAt(i)) >= 0;
            if (!one || digits.indexOf(digits.charAt(i)) != i) {
                return false;
            }
        }
        return true;
    }

    private static void hideBad() {
        Sentence it = Sentence.of(28, "BAD.");
        Twins.unchanged(it, "hide by BAD", s -> {
            it.refusesOutside("ground", 0, 3, ground -> s.hide(ground, 12, 0), BAD);
            it.refusesOutside("what", 0, 1, what -> s.hide(0, 12, what), BAD);
            int[] bad = {-1, 6, 11, 16, 60, 100, 101, 112, 122, 161, 1023, Due.LEAST, Due.MOST};
            for (int groups : bad) {
                it.is("groups " + groups, s.hide(0, groups, 0), BAD);
            }
        });
    }

    private static void misses() {
        Sentence it = Sentence.of(29, "MISSES likewise: what 0 the sum, 1 the PULLS.");
        SkinShow s = three(0, 5, 0);
        s.put(0, 2, 53);
        it.is("the sum", s.misses(0, 12, 0), 3);
        it.is("the PULLS", s.misses(0, 12, 1), 5);
        it.is("the PULLS", s.misses(0, 213, 1), 500);
        Twins.unchanged(it, "missing", twin -> {
            twin.misses(0, 0, 0);
            twin.misses(1, 12, 1);
            twin.misses(2, 210, 0);
        });
    }

    private static void missesBad() {
        Sentence it = Sentence.of(29, "BAD.");
        Twins.unchanged(it, "misses by BAD", s -> {
            it.refusesOutside("ground", 0, 3, ground -> s.misses(ground, 12, 0), BAD);
            it.refusesOutside("what", 0, 1, what -> s.misses(0, 12, what), BAD);
            int[] bad = {-1, 6, 11, 16, 60, 100, 101, 112, 122, 161, 1023, Due.LEAST, Due.MOST};
            for (int groups : bad) {
                it.is("groups " + groups, s.misses(0, groups, 0), BAD);
            }
        });
    }

    private static void half() {
        Sentence it = Sentence.of(30, "HALVES of a GROUND for a GROUP.");
        SkinShow s = new SkinShow();
        s.part(0, 0, 0, 0, 9);
        s.part(0, 47, 0, 0, 9);
        s.part(0, 46, 0, 0, 9);
        s.nerve(9, 0, 5);
        Due.line(s, 23, 50, 50, 50, 50, 50, 50, 99, 99);
        it.is("GROUND 3 for GROUP 5", s.half(3, 5), 1);
        it.is("GROUND 3 for GROUP 0", s.half(3, 0), 0);
        it.is("GROUND 0 for GROUP 5", s.half(0, 5), -3);
    }

    private static void halfBad() {
        Sentence it = Sentence.of(30, "BAD.");
        Twins.unchanged(it, "half by BAD", s -> {
            it.refusesOutside("ground", 0, 3, ground -> s.half(ground, 0), BAD);
            it.refusesOutside("group", 0, 5, group -> s.half(0, group), BAD);
        });
    }
}
