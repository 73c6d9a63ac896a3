/** The sentences of part 1 of the Terms and of promises 1 to 13 that name a boundary case, each with a test of its own. */
public final class SkinSentencesTest {
    private static final int BAD = Due.BAD, NO = Due.NO, FULL = Due.FULL, NONE = Due.NONE, KIND = Due.KIND;
    private static final int PART = 0, BAG = 1, MIRROR = 2, WHITE = 3, BUMP = 4, DEAD = 5;
    private static final int TONE = 0, ABOVE = 1, EDGE = 2, TELLS = 3;
    private static final int AIM = 6, PACE = 7, GIVES = 8;

    public static void main(String[] args) {
        termsAhead();
        termsOfPlaces();
        termsOfParts();
        termsOfNumbers();
        termsOfNerves();
        aimOfPart();
        aimOfBag();
        aimOfMirror();
        aimOfWhite();
        aimOfBump();
        aimOfDead();
        paceOfPart();
        paceOfBag();
        paceOfBump();
        paceOfMirror();
        paceOfWhite();
        paceOfDead();
        givesOfPart();
        givesOfBag();
        givesOfMirror();
        givesOfWhite();
        givesOfBump();
        givesOfDead();
        kindsNotNamed();
        termsOfHeight();
        termsOfLight();
        termsOfLightAbove();
        termsOfLightHeld();
        termsOfTicks();
        termsOfATick();
        termsOfRest();
        newObject();
        part();
        partBad();
        partNo();
        told();
        toldBad();
        as();
        asBad();
        asKind();
        dies();
        diesBad();
        diesNo();
        nerve();
        nerveBad();
        pull();
        pullBad();
        rule();
        ruleBad();
        show();
        showBad();
        tick();
        tickBad();
        tickFull();
        rest();
        restOfNone();
        restOfAll();
        still();
        change();
        Sentence.end("SkinSentencesTest");
    }

    /** One PART of a kind at PLACE 0, on NERVE 0 of a WEIGHT, whose GROUP is pulled. */
    private static SkinShow one(int kind, int a, int span, int weight, int pull) {
        SkinShow s = new SkinShow();
        s.part(kind, 0, a, span, 0);
        s.nerve(0, 1, weight);
        s.pull(0, pull);
        return s;
    }

    private static int aim(int kind, int span, int weight, int pull) {
        return one(kind, 5, span, weight, pull).told(0, AIM);
    }

    /** What is told of one PART that has come to rest. */
    private static int restedOne(int kind, int a, int span, int pull, int what) {
        SkinShow s = one(kind, a, span, 5, pull);
        s.rest();
        return s.told(0, what);
    }

    // ---- Terms, ahead of the parts

    private static void termsAhead() {
        Sentence whole = Sentence.terms(0, "All numbers are whole; / cuts towards 0.");
        whole.is("PULL 3 by WEIGHT 4 by 5 (12 by 5)", aim(PART, 9, 4, 3), 2);
        whole.is("PULL 1 by WEIGHT 4 by 5 (4 by 5)", aim(PART, 9, 4, 1), 0);
        whole.is("half of 9", aim(BUMP, 9, 5, 9), 4);
        int[][] division = {{7, 2, 3}, {-7, 2, -3}, {7, -2, -3}, {-7, -2, 3}, {-1, 2, 0}, {1, -2, 0}, {6, -3, -2}};
        for (int[] d : division) {
            SkinShow s = new SkinShow();
            Due.text(s, 0, "eye d/g");
            whole.is(d[0] + " / " + d[1], s.gives(6, d[0], d[1], 0, 0), d[2]);
        }
        Sentence refused = Sentence.terms(0, "A call that is refused answers one of BAD, NO, FULL, or a FINDING, "
            + "of several the one that stands first with it, and changes nothing (but the tape and the numbers that wait, "
            + "where told).");
        Twins.unchanged(refused, "a PART that is refused by BAD, by NO", s -> {
            refused.is("BAD ahead of NO", s.part(0, 7, 10, 0, 0), BAD);
            refused.is("NO ahead of FULL", s.part(0, 7, 0, 0, 0), NO);
        });
        Sentence none = Sentence.terms(0, "NONE: there is none.");
        SkinShow s = new SkinShow();
        none.is("the PART at an empty PLACE", s.show(0, 2), NONE);
        none.is("the TEXT that counts", s.why(0), NONE);
        none.is("what it gives", s.gives(6, 0, 0, 0, 0), NONE);
        none.is("the least PLACE of THE BEAST", s.beast(0, 2), NONE);
        none.is("THE ROW that parts most", s.parts(), NONE);
    }

    // ---- Terms, part 1

    private static void termsOfPlaces() {
        Sentence it = Sentence.terms(1, "THE SKIN has PLACES by x 0 .. 7 and y 0 .. 5, numbered 8 * y + x.");
        SkinShow s = new SkinShow();
        int[] corners = {0, 7, 40, 47};
        for (int i = 0; i < 4; i++) {
            it.is("a PART at the corner " + corners[i], s.part(PART, corners[i], 0, 0, 0), i);
        }
        it.refusesOutside("place", 0, 47, place -> s.part(PART, place, 0, 0, 0), BAD);
        // y is told by the number: a HEIGHT is felt right below, 8 more, and by no other
        SkinShow bump = new SkinShow();
        bump.part(BUMP, 7, 0, 2, 0);
        bump.pull(0, 9);
        bump.rest();
        bump.rule(ABOVE, 9);
        int[] place = {7, 15, 8, 6, 14, 16, 23};
        int[] light = {50 + 1 + 9, 50 - 9, 50, 50, 50, 50, 50};
        for (int i = 0; i < place.length; i++) {
            it.is("LIGHT of " + place[i] + " with a BUMP at 7", bump.show(place[i], 0), light[i]);
        }
    }

    private static void termsOfParts() {
        Sentence it = Sentence.terms(1, "PARTS, 48 at most, numbered from 0, at unlike PLACES, of KINDS: 0 PART; 1 BAG, "
            + "2 MIRROR, 4 BUMP, 5 DEAD, under PART; 3 WHITE, under MIRROR (all are PARTS).");
        SkinShow s = new SkinShow();
        for (int place = 0; place < 48; place++) {
            it.is("the number of a PART", s.part(place % 6, place, 0, 0, 0), place);
        }
        it.is("48 PARTS", s.count(0), 48);
        for (int place = 0; place < 48; place++) {
            it.is("the forty-ninth", s.part(PART, place, 0, 0, 0), NO);
        }
        it.is("48 PARTS", s.count(0), 48);
        it.is("the last is told", s.told(47, 1), 47);
        it.is("none behind it", s.told(48, 1), BAD);
        for (int kind = 0; kind <= 5; kind++) {
            it.is("KIND " + kind + " as PART", s.as(kind, PART), 0);
            it.is("KIND " + kind + " as MIRROR", s.as(kind, MIRROR), kind == MIRROR || kind == WHITE ? 0 : KIND);
            it.is("KIND " + kind + " as WHITE", s.as(kind, WHITE), kind == WHITE ? 0 : KIND);
        }
    }

    private static void termsOfNumbers() {
        Sentence it = Sentence.terms(1, "Each has a number a 0 .. 9, a SPAN 0 .. 9, and hangs on a NERVE 0 .. 9; "
            + "a SIZE (0 at first).");
        SkinShow s = new SkinShow();
        s.pull(0, 9);
        for (int n = 0; n <= 9; n++) {
            s.part(WHITE, n, n, 9 - n, n);
            it.is("a", s.told(n, 2), n);
            it.is("SPAN", s.told(n, 3), 9 - n);
            it.is("NERVE", s.told(n, 4), n);
            it.is("SIZE at first", s.told(n, 5), 0);
        }
        it.refusesOutside("a", 0, 9, a -> s.part(PART, 20, a, 0, 0), BAD);
        it.refusesOutside("SPAN", 0, 9, span -> s.part(PART, 20, 0, span, 0), BAD);
        it.refusesOutside("NERVE", 0, 9, nerve -> s.part(PART, 20, 0, 0, nerve), BAD);
    }

    private static void termsOfNerves() {
        Sentence it = Sentence.terms(1, "NERVES are each in a GROUP 0 .. 5 (0 at first), with a WEIGHT 1 .. 9 "
            + "(5 at first); GROUPS have a PULL 0 .. 9 (0 at first).");
        SkinShow s = new SkinShow();
        for (int nerve = 0; nerve <= 9; nerve++) {
            it.is("GROUP at first", s.nerve(nerve, 0, 5), 0);
            it.is("GROUP 5", s.nerve(nerve, 0, 0), 5);
            it.is("WEIGHT at first", s.nerve(nerve, 1, 1), 5);
            it.is("WEIGHT 1", s.nerve(nerve, 1, 9), 1);
            it.is("WEIGHT 9", s.nerve(nerve, 1, 5), 9);
        }
        for (int group = 0; group <= 5; group++) {
            it.is("PULL at first", s.pull(group, 9), 0);
            it.is("PULL 9", s.pull(group, 0), 9);
        }
        it.refusesOutside("GROUP", 0, 5, v -> s.nerve(0, 0, v), BAD);
        it.refusesOutside("WEIGHT", 1, 9, v -> s.nerve(0, 1, v), BAD);
        it.refusesOutside("PULL", 0, 9, v -> s.pull(0, v), BAD);
    }

    // SPAN, WEIGHT, PULL, and what that is for a PART
    private static final int[][] DRAWN = {
        {9, 5, 0, 0}, {9, 1, 9, 1}, {9, 1, 4, 0}, {9, 1, 5, 1}, {9, 5, 9, 9}, {8, 5, 9, 8}, {9, 5, 8, 8}, {9, 9, 9, 9},
        {8, 9, 4, 7}, {7, 9, 4, 7}, {6, 9, 4, 6}, {0, 9, 9, 0}, {1, 5, 1, 1}, {9, 9, 5, 9}, {9, 4, 9, 7}, {9, 6, 9, 9}};

    private static void aimOfPart() {
        Sentence it = Sentence.terms(1, "AIM of a PART: PART: PULL of its NERVE's GROUP times WEIGHT of the NERVE by 5, "
            + "SPAN at most.");
        for (int[] d : DRAWN) {
            it.is("SPAN " + d[0] + ", WEIGHT " + d[1] + ", PULL " + d[2], aim(PART, d[0], d[1], d[2]), d[3]);
        }
        SkinShow s = new SkinShow();
        s.part(PART, 0, 0, 9, 9);
        s.nerve(9, 0, 5);
        s.nerve(9, 1, 4);
        s.pull(0, 9);
        it.is("another GROUP is pulled", s.told(0, AIM), 0);
        s.pull(5, 9);
        it.is("its GROUP is pulled", s.told(0, AIM), 7);
        s.nerve(0, 1, 9);
        it.is("another NERVE has a WEIGHT", s.told(0, AIM), 7);
    }

    private static void aimOfBag() {
        Sentence it = Sentence.terms(1, "BAG: as PART. MIRROR: SPAN less as PART.");
        for (int[] d : DRAWN) {
            it.is("BAG, SPAN " + d[0] + ", WEIGHT " + d[1] + ", PULL " + d[2], aim(BAG, d[0], d[1], d[2]), d[3]);
        }
    }

    private static void aimOfMirror() {
        Sentence it = Sentence.terms(1, "MIRROR: SPAN less as PART.");
        for (int[] d : DRAWN) {
            it.is("SPAN " + d[0] + ", WEIGHT " + d[1] + ", PULL " + d[2], aim(MIRROR, d[0], d[1], d[2]), d[0] - d[3]);
        }
    }

    private static void aimOfWhite() {
        Sentence it = Sentence.terms(1, "WHITE: SPAN. BUMP: half (cut) of as PART");
        for (int[] d : DRAWN) {
            it.is("SPAN " + d[0] + ", WEIGHT " + d[1] + ", PULL " + d[2], aim(WHITE, d[0], d[1], d[2]), d[0]);
        }
    }

    private static void aimOfBump() {
        Sentence it = Sentence.terms(1, "BUMP: half (cut) of as PART (SPAN held first).");
        int[][] half = {{9, 5, 0, 0}, {9, 5, 1, 0}, {9, 5, 2, 1}, {9, 5, 3, 1}, {9, 5, 8, 4}, {9, 5, 9, 4},
            // SPAN 5 held first: half of 5, not 5 (of the half of 16); SPAN 1: 0, SPAN 0: 0
            {5, 9, 9, 2}, {4, 9, 9, 2}, {3, 9, 9, 1}, {2, 9, 9, 1}, {1, 9, 9, 0}, {0, 9, 9, 0}};
        for (int[] d : half) {
            it.is("SPAN " + d[0] + ", WEIGHT " + d[1] + ", PULL " + d[2], aim(BUMP, d[0], d[1], d[2]), d[3]);
        }
    }

    private static void aimOfDead() {
        Sentence it = Sentence.terms(1, "DEAD: its SIZE. PACE of a PART");
        it.is("DEAD from the first", aim(DEAD, 9, 9, 9), 0);
        for (int size = 0; size <= 9; size++) {
            SkinShow s = one(PART, 5, 9, 5, size);
            s.rest();
            s.dies(0);
            s.pull(0, 9 - size);
            it.is("AIM of a dead one of SIZE " + size, s.told(0, AIM), size);
        }
    }

    /** The SIZES of one PART tick by tick, from 0 up to its AIM, then back by another PULL. */
    private static void walks(Sentence it, SkinShow s, int[] up, int pull, int[] back) {
        for (int size : up) {
            s.tick(1);
            it.is("on its way", s.told(0, 5), size);
        }
        s.pull(0, pull);
        for (int size : back) {
            s.tick(1);
            it.is("on its way back", s.told(0, 5), size);
        }
    }

    private static void paceOfPart() {
        Sentence it = Sentence.terms(1, "PACE of a PART: how much its SIZE goes in a TICK towards AIM at most: PART: 1.");
        it.is("PACE", one(PART, 9, 9, 5, 9).told(0, PACE), 1);
        walks(it, one(PART, 9, 9, 5, 3), new int[] {1, 2, 3, 3}, 1, new int[] {2, 1, 1});
    }

    private static void paceOfBag() {
        Sentence it = Sentence.terms(1, "BAG: as PART, and 1 more if a is above 4.");
        int[] pace = {1, 1, 1, 1, 1, 2, 2, 2, 2, 2};
        for (int a = 0; a <= 9; a++) {
            it.is("PACE by a " + a, one(BAG, a, 9, 5, 9).told(0, PACE), pace[a]);
        }
        walks(it, one(BAG, 4, 9, 5, 2), new int[] {1, 2, 2}, 0, new int[] {1, 0, 0});
        walks(it, one(BAG, 5, 9, 5, 5), new int[] {2, 4, 5, 5}, 2, new int[] {3, 2, 2});
    }

    private static void paceOfBump() {
        Sentence it = Sentence.terms(1, "BUMP: as PART. MIRROR: 2.");
        it.is("PACE", one(BUMP, 9, 9, 5, 9).told(0, PACE), 1);
        walks(it, one(BUMP, 9, 9, 5, 6), new int[] {1, 2, 3, 3}, 2, new int[] {2, 1, 1});
    }

    private static void paceOfMirror() {
        Sentence it = Sentence.terms(1, "MIRROR: 2. WHITE: as MIRROR, and 7.");
        it.is("PACE", one(MIRROR, 0, 9, 5, 9).told(0, PACE), 2);
        walks(it, one(MIRROR, 9, 5, 5, 0), new int[] {2, 4, 5, 5}, 4, new int[] {3, 1, 1});
    }

    private static void paceOfWhite() {
        Sentence it = Sentence.terms(1, "WHITE: as MIRROR, and 7. DEAD: 0.");
        it.is("PACE", one(WHITE, 0, 9, 5, 9).told(0, PACE), 9);
        walks(it, one(WHITE, 0, 9, 5, 0), new int[] {9, 9}, 9, new int[] {9});
        walks(it, one(WHITE, 0, 3, 5, 0), new int[] {3, 3}, 9, new int[] {3});
    }

    private static void paceOfDead() {
        Sentence it = Sentence.terms(1, "DEAD: 0. GIVES of a PART");
        it.is("PACE", one(DEAD, 9, 9, 5, 9).told(0, PACE), 0);
        SkinShow s = one(BAG, 9, 9, 5, 3);
        s.rest();
        s.dies(0);
        it.is("PACE of one that died", s.told(0, PACE), 0);
        walks(it, s, new int[] {3, 3}, 9, new int[] {3});
    }

    private static void givesOfPart() {
        Sentence it = Sentence.terms(1, "GIVES of a PART (to the light of its PLACE): PART: 0.");
        it.is("a PART of a 9, SIZE 9", restedOne(PART, 9, 9, 9, GIVES), 0);
        SkinShow s = one(BAG, 3, 9, 5, 2);
        s.rest();
        it.is("the LIGHT of its PLACE", s.show(0, 0), 50 - 6);
        it.is("the LIGHT beside", s.show(1, 0), 50);
        it.is("the LIGHT below", s.show(8, 0), 50);
    }

    private static void givesOfBag() {
        Sentence it = Sentence.terms(1, "BAG: less a times SIZE.");
        it.is("a 9, SIZE 9", restedOne(BAG, 9, 9, 9, GIVES), -81);
        it.is("a 9, SIZE 1", restedOne(BAG, 9, 9, 1, GIVES), -9);
        it.is("a 9, SIZE 0", restedOne(BAG, 9, 9, 0, GIVES), 0);
        it.is("a 1, SIZE 9", restedOne(BAG, 1, 9, 9, GIVES), -9);
        it.is("a 0, SIZE 9", restedOne(BAG, 0, 9, 9, GIVES), 0);
    }

    private static void givesOfMirror() {
        Sentence it = Sentence.terms(1, "MIRROR: SIZE times 2.");
        it.is("SIZE 9", restedOne(MIRROR, 9, 9, 0, GIVES), 18);
        it.is("SIZE 1", restedOne(MIRROR, 9, 9, 8, GIVES), 2);
        it.is("SIZE 0", restedOne(MIRROR, 9, 9, 9, GIVES), 0);
    }

    private static void givesOfWhite() {
        Sentence it = Sentence.terms(1, "WHITE: as MIRROR, and a.");
        it.is("a 9, SIZE 9", restedOne(WHITE, 9, 9, 9, GIVES), 27);
        it.is("a 0, SIZE 9", restedOne(WHITE, 0, 9, 9, GIVES), 18);
        it.is("a 9, SIZE 0", restedOne(WHITE, 9, 0, 9, GIVES), 9);
        it.is("a 9, SIZE 0 at first", one(WHITE, 9, 9, 5, 0).told(0, GIVES), 9);
        it.is("a 0, SIZE 0", restedOne(WHITE, 0, 0, 9, GIVES), 0);
    }

    private static void givesOfBump() {
        Sentence it = Sentence.terms(1, "BUMP: SIZE. DEAD: as PART.");
        it.is("SIZE 4", restedOne(BUMP, 9, 9, 9, GIVES), 4);
        it.is("SIZE 1", restedOne(BUMP, 9, 9, 2, GIVES), 1);
        it.is("SIZE 0", restedOne(BUMP, 9, 9, 1, GIVES), 0);
    }

    private static void givesOfDead() {
        Sentence it = Sentence.terms(1, "DEAD: as PART. (A KIND");
        for (int kind = PART; kind <= BUMP; kind++) {
            SkinShow s = one(kind, 9, 9, 5, 4);
            s.rest();
            s.dies(0);
            it.is("a dead one that was of KIND " + kind, s.told(0, GIVES), 0);
            it.is("the LIGHT there", s.show(0, 0), 50);
        }
        it.is("DEAD from the first", restedOne(DEAD, 9, 9, 9, GIVES), 0);
    }

    private static void kindsNotNamed() {
        Sentence it = Sentence.terms(1, "(A KIND that is not named does as the one above it.)");
        // HEIGHT alone does not name all: none of the others has one, those under PART and MIRROR as well
        for (int kind = PART; kind <= DEAD; kind++) {
            SkinShow s = one(kind, 0, 9, 5, 5);
            s.rest();
            it.is("HEIGHT of KIND " + kind, s.show(0, 3), kind == BUMP ? 2 : 0);
        }
    }

    private static void termsOfHeight() {
        Sentence it = Sentence.terms(1, "HEIGHT of a PLACE: SIZE of a BUMP there, else 0.");
        SkinShow s = one(BUMP, 9, 9, 5, 9);
        it.is("of SIZE 0", s.show(0, 3), 0);
        for (int size = 1; size <= 4; size++) {
            s.tick(1);
            it.is("of SIZE " + size, s.show(0, 3), size);
        }
        it.is("without a PART", s.show(1, 3), 0);
        it.is("below", s.show(8, 3), 0);
        s.dies(0);
        it.is("of a dead one", s.show(0, 3), 0);
    }

    private static void termsOfLight() {
        Sentence it = Sentence.terms(1, "LIGHT of a PLACE: TONE (0 .. 99; 50 at first), and what the PART there GIVES, "
            + "and ABOVE (0 .. 9; 0 at first) times");
        SkinShow s = new SkinShow();
        it.is("TONE at first", s.show(47, 0), 50);
        s.rule(TONE, 0);
        it.is("TONE 0", s.show(47, 0), 0);
        s.rule(TONE, 99);
        it.is("TONE 99", s.show(47, 0), 99);
        SkinShow bump = one(BUMP, 0, 9, 5, 9);
        bump.rest();
        it.is("ABOVE 0 at first", bump.show(0, 0), 54);
        int[] light = {54, 58, 62, 66, 70, 74, 78, 82, 86, 90};
        for (int above = 0; above <= 9; above++) {
            bump.rule(ABOVE, above);
            it.is("ABOVE " + above, bump.show(0, 0), light[above]);
            it.is("ABOVE " + above + ", below", bump.show(8, 0), 50 - 4 * above);
        }
        it.refusesOutside("TONE", 0, 99, v -> s.rule(TONE, v), BAD);
        it.refusesOutside("ABOVE", 0, 9, v -> s.rule(ABOVE, v), BAD);
    }

    private static void termsOfLightAbove() {
        Sentence it = Sentence.terms(1, "(its HEIGHT less that of the PLACE right above it; y less by 1, of y 0 less 0)");
        SkinShow s = new SkinShow();
        // HEIGHT 4 at 0, 4 at 8, 1 at 16, and 4 at 40 and 47 in the lowest row
        int[] place = {0, 8, 16, 40, 47};
        int[] span = {9, 9, 2, 9, 9};
        for (int i = 0; i < place.length; i++) {
            s.part(BUMP, place[i], 0, span[i], 0);
        }
        s.pull(0, 9);
        s.rest();
        s.rule(ABOVE, 3);
        int[] asked = {0, 8, 16, 24, 32, 40, 47, 39, 1, 7, 9};
        int[] light = {50 + 4 + 12, 50 + 4, 50 + 1 - 9, 50 - 3, 50, 50 + 4 + 12, 50 + 4 + 12, 50, 50, 50, 50};
        for (int i = 0; i < asked.length; i++) {
            it.is("LIGHT of " + asked[i], s.show(asked[i], 0), light[i]);
        }
    }

    private static void termsOfLightHeld() {
        Sentence it = Sentence.terms(1, "held within 0 .. 99. TICKS are numbered");
        SkinShow bag = one(BAG, 1, 9, 5, 9);
        bag.rest();
        int[] low = {8, 9, 10};
        for (int i = 0; i < 3; i++) {
            bag.rule(TONE, low[i]);
            it.is("TONE " + low[i] + " less 9", bag.show(0, 0), Math.max(0, low[i] - 9));
        }
        SkinShow white = one(WHITE, 1, 9, 5, 9);
        white.rest();
        int[] high = {79, 80, 81};
        int[] light = {98, 99, 99};
        for (int i = 0; i < 3; i++) {
            white.rule(TONE, high[i]);
            it.is("TONE " + high[i] + " and 19", white.show(0, 0), light[i]);
        }
        // held once, behind all: 99 and 27 less 9 times 4
        SkinShow both = new SkinShow();
        both.part(BUMP, 0, 0, 9, 0);
        both.part(WHITE, 8, 9, 9, 0);
        both.pull(0, 9);
        both.rest();
        both.rule(TONE, 99);
        both.rule(ABOVE, 9);
        it.is("held behind the last", both.show(8, 0), 90);
        it.is("far above", both.show(0, 0), 99);
        it.is("far below: 0 less 36", lightBelowABump(), 0);
    }

    private static int lightBelowABump() {
        SkinShow s = one(BUMP, 0, 9, 5, 9);
        s.rest();
        s.rule(TONE, 0);
        s.rule(ABOVE, 9);
        return s.show(8, 0);
    }

    private static void termsOfTicks() {
        Sentence it = Sentence.terms(1, "TICKS are numbered; the one that is open is 0 at first (9999 at most).");
        SkinShow s = new SkinShow();
        it.is("at first", s.count(13), 0);
        it.is("kept at first", s.keep(), 0);
        it.is("the next", s.tick(1), 1);
        SkinShow late = late(9999);
        it.is("the last", late.count(13), 9999);
        it.is("none behind it", late.tick(1), FULL);
        it.is("the last is open still", late.keep(), 9999);
    }

    /** An object in a late TICK. */
    private static SkinShow late(int tick) {
        SkinShow s = new SkinShow();
        for (int i = 0; i < tick / 60; i++) {
            s.tick(60);
        }
        if (tick % 60 > 0) {
            s.tick(tick % 60);
        }
        return s;
    }

    private static void termsOfATick() {
        Sentence it = Sentence.terms(1, "In a TICK: all AIMS are found, then all SIZES go towards them; then WAS of each "
            + "PLACE becomes its LIGHT ahead of the TICK; then the next TICK is open.");
        SkinShow s = new SkinShow();
        s.part(BAG, 0, 5, 9, 0);
        s.part(MIRROR, 47, 5, 9, 1);
        s.nerve(1, 0, 1);
        s.pull(0, 9);
        s.rule(TONE, 40);
        it.is("the next is open", s.tick(1), 1);
        it.is("SIZE of the BAG", s.told(0, 5), 2);
        it.is("SIZE of the MIRROR", s.told(1, 5), 2);
        it.is("LIGHT of the BAG", s.show(0, 0), 30);
        it.is("WAS of the BAG: with the TONE that was", s.show(0, 1), 40);
        it.is("WAS of an empty PLACE", s.show(20, 1), 40);
        it.is("two more", s.tick(2), 3);
        it.is("WAS of the BAG ahead of the last", s.show(0, 1), 20);
        it.is("LIGHT of the BAG", s.show(0, 0), 10);
        it.is("WAS of the MIRROR", s.show(47, 1), 48);
        s.rule(TONE, 90);
        it.is("WAS stays, whatever LIGHT becomes", s.show(20, 1), 40);
        s.tick(1);
        it.is("WAS with the new TONE", s.show(20, 1), 90);
    }

    private static void termsOfRest() {
        Sentence it = Sentence.terms(1, "AT REST: all SIZES are their AIMS (of DEAD ones as they are).");
        SkinShow s = one(BAG, 5, 9, 5, 4);
        it.is("on its way", s.still(), 2);
        s.tick(2);
        it.is("AT REST", s.still(), 0);
        s.pull(0, 5);
        it.is("no more", s.still(), 1);
        s.dies(0);
        it.is("a DEAD one is, of any SIZE", s.still(), 0);
        it.is("and changes by no rest", s.rest(), 0);
        it.is("its SIZE", s.told(0, 5), 4);
    }

    // ---- Promises 1 to 13

    private static void newObject() {
        Sentence it = Sentence.of(1, "As told; no PARTS.");
        SkinShow s = new SkinShow();
        for (int what = 0; what <= 13; what++) {
            it.is("count(" + what + ")", s.count(what), 0);
        }
        it.is("no PART 0", s.told(0, 0), BAD);
        for (int place = 0; place < 48; place++) {
            it.is("LIGHT of " + place, s.show(place, 0), 50);
            it.is("WAS of " + place, s.show(place, 1), 50);
            it.is("the PART at " + place, s.show(place, 2), NONE);
            it.is("HEIGHT of " + place, s.show(place, 3), 0);
            it.is("GROUND at " + place, s.ground(place % 4, place), 50);
        }
        int[] rules = {50, 0, 20, 6};
        for (int what = 0; what < 4; what++) {
            it.is("rule " + what, s.rule(what, rules[what]), rules[what]);
        }
        for (int line = 0; line < 24; line++) {
            it.is("LINE " + line + " is MISSING", s.put(line, 0, 0), Due.NOTHING);
        }
        for (int group = 0; group <= 6; group++) {
            it.is("no TEXT counts", s.why(group), NONE);
        }
        it.is("nothing is learnt", s.fewest(), 0);
        it.is("no rows", s.parts(), NONE);
        it.is("no IMAGE", s.back(), NO);
        it.is("one number waits", s.tell(1), 1);
        it.is("no IMAGE", s.check(1), NO);
        it.is("an empty TAPE", s.text(0), -100);
        it.is("two objects are apart", otherObjectStays(), 0);
    }

    private static int otherObjectStays() {
        SkinShow one = new SkinShow();
        SkinShow other = new SkinShow();
        one.part(BAG, 0, 0, 0, 0);
        one.tick(1);
        one.rule(TONE, 9);
        Due.line(one, 0, 1, 2, 3);
        Due.text(one, 0, "eye 1");
        return other.count(0) + other.count(7) + other.count(10) + other.count(13) + other.show(0, 0) - 50;
    }

    private static void part() {
        Sentence it = Sentence.of(2, "One more PART: its number.");
        SkinShow s = new SkinShow();
        it.takes("kind", 0, 5, kind -> s.part(kind, kind, 0, 0, 0));
        it.takes("place", 6, 47, place -> s.part(0, place, 0, 0, 0));
        it.takes("a", 0, 9, a -> s.part(0, 10 + a, a, 0, 0));
        it.takes("span", 0, 9, span -> s.part(0, 20 + span, 0, span, 0));
        it.takes("nerve", 0, 9, nerve -> s.part(0, 30 + nerve, 0, 0, nerve));
        it.is("the number of one more", s.part(0, 46, 0, 0, 0), 10);
        it.is("eleven", s.count(0), 11);
    }

    private static void partBad() {
        Sentence it = Sentence.of(2, "BAD: kind, place, a, span, nerve;");
        Twins.unchanged(it, "a PART by BAD", s -> {
            it.refusesOutside("kind", 0, 5, kind -> s.part(kind, 1, 0, 0, 0), BAD);
            it.refusesOutside("place", 0, 47, place -> s.part(0, place, 0, 0, 0), BAD);
            it.refusesOutside("a", 0, 9, a -> s.part(0, 1, a, 0, 0), BAD);
            it.refusesOutside("span", 0, 9, span -> s.part(0, 1, 0, span, 0), BAD);
            it.refusesOutside("nerve", 0, 9, nerve -> s.part(0, 1, 0, 0, nerve), BAD);
        });
    }

    private static void partNo() {
        Sentence it = Sentence.of(2, "NO: there is one at that PLACE; FULL.");
        Twins.unchanged(it, "a PART by NO", s -> {
            it.is("a PLACE that is taken", s.part(1, 47, 0, 0, 0), NO);
            it.is("taken by a DEAD one", s.part(1, 17, 0, 0, 0), NO);
            it.is("BAD ahead of NO: kind", s.part(6, 47, 0, 0, 0), BAD);
            it.is("BAD ahead of NO: a", s.part(0, 47, 10, 0, 0), BAD);
            it.is("BAD ahead of NO: span", s.part(0, 47, 0, 10, 0), BAD);
            it.is("BAD ahead of NO: nerve", s.part(0, 47, 0, 0, 10), BAD);
        });
        SkinShow s = new SkinShow();
        for (int place = 47; place >= 0; place--) {
            it.is("one more", s.part(1, place, 0, 0, 0), 47 - place);
        }
        it.is("48: each PLACE is taken, and NO stands ahead of FULL", s.part(1, 0, 0, 0, 0), NO);
        it.is("48: BAD ahead of both", s.part(1, 48, 0, 0, 0), BAD);
    }

    private static void told() {
        Sentence it = Sentence.of(3, "Of a PART: what 0 KIND, 1 PLACE, 2 a, 3 SPAN, 4 NERVE, 5 SIZE, 6 AIM, 7 PACE, "
            + "8 what it GIVES.");
        SkinShow s = new SkinShow();
        s.part(WHITE, 46, 7, 8, 9);
        s.part(BAG, 45, 6, 5, 3);
        s.pull(0, 4);
        s.tick(1);
        int[][] want = {{WHITE, 46, 7, 8, 9, 8, 8, 9, 23}, {BAG, 45, 6, 5, 3, 2, 4, 2, -12}};
        for (int part = 0; part < 2; part++) {
            for (int what = 0; what <= 8; what++) {
                it.is("told(" + part + ", " + what + ")", s.told(part, what), want[part][what]);
            }
        }
        Twins.unchanged(it, "telling of PARTS", twin -> {
            for (int what = 0; what <= 8; what++) {
                twin.told(what % 7, what);
            }
        });
    }

    private static void toldBad() {
        Sentence it = Sentence.of(3, "BAD.");
        Twins.unchanged(it, "telling by BAD", s -> {
            it.refusesOutside("part of seven", 0, 6, part -> s.told(part, 0), BAD);
            it.refusesOutside("what", 0, 8, what -> s.told(0, what), BAD);
        });
        SkinShow s = new SkinShow();
        it.is("of no PARTS the first", s.told(0, 0), BAD);
        s.part(0, 0, 0, 0, 0);
        it.is("the first", s.told(0, 0), 0);
        it.is("the second of one", s.told(1, 0), BAD);
    }

    private static void as() {
        Sentence it = Sentence.of(4, "A PART as one of a KIND: a.");
        SkinShow s = new SkinShow();
        for (int kind = PART; kind <= DEAD; kind++) {
            s.part(kind, kind, kind == PART ? 0 : 10 - kind, 0, 0);
            it.is("as its own KIND " + kind, s.as(kind, kind), kind == PART ? 0 : 10 - kind);
            it.is("as a PART", s.as(kind, PART), kind == PART ? 0 : 10 - kind);
        }
        it.is("a WHITE as a MIRROR", s.as(WHITE, MIRROR), 7);
    }

    private static void asBad() {
        Sentence it = Sentence.of(4, "BAD: part, kind;");
        Twins.unchanged(it, "as by BAD", s -> {
            it.refusesOutside("part of seven", 0, 6, part -> s.as(part, PART), BAD);
            it.refusesOutside("kind", 0, 5, kind -> s.as(0, kind), BAD);
        });
        it.is("of no PARTS the first", new SkinShow().as(0, 0), BAD);
    }

    private static void asKind() {
        Sentence it = Sentence.of(4, "KIND: it is not of that KIND, nor of one under it.");
        SkinShow s = new SkinShow();
        for (int kind = PART; kind <= DEAD; kind++) {
            s.part(kind, kind, kind, 0, 0);
        }
        for (int part = PART; part <= DEAD; part++) {
            for (int kind = PART; kind <= DEAD; kind++) {
                boolean is = kind == PART || kind == part || part == WHITE && kind == MIRROR;
                it.is("KIND " + part + " as " + kind, s.as(part, kind), is ? part : KIND);
            }
        }
        s.dies(WHITE);
        it.is("a dead WHITE as a WHITE", s.as(WHITE, WHITE), KIND);
        it.is("a dead WHITE as a MIRROR", s.as(WHITE, MIRROR), KIND);
        it.is("a dead WHITE as a DEAD one", s.as(WHITE, DEAD), WHITE);
        Twins.unchanged(it, "as by KIND", twin -> it.is("a BAG as a BUMP", twin.as(1, BUMP), KIND));
    }

    private static void dies() {
        Sentence it = Sentence.of(5, "A PART is DEAD (of that KIND) from now on (its SIZE stays; a, SPAN, NERVE, too): 1.");
        for (int kind = PART; kind <= BUMP; kind++) {
            SkinShow s = one(kind, 9, 9, 5, 4);
            s.rest();
            int size = s.told(0, 5);
            it.is("dies", s.dies(0), 1);
            int[] want = {DEAD, 0, 9, 9, 0, size, size, 0, 0};
            for (int what = 0; what <= 8; what++) {
                it.is("told(0, " + what + ")", s.told(0, what), want[what]);
            }
            s.pull(0, 9);
            s.tick(2);
            s.rest();
            it.is("its SIZE stays", s.told(0, 5), size);
            it.is("it stays at its PLACE", s.show(0, 2), 0);
            it.is("counted as DEAD", s.count(DEAD), 1);
        }
        SkinShow young = one(BAG, 9, 9, 5, 4);
        it.is("at SIZE 0", young.dies(0), 1);
        young.rest();
        it.is("SIZE 0 stays", young.told(0, 5), 0);
    }

    private static void diesBad() {
        Sentence it = Sentence.of(5, "BAD; NO: it is.");
        Twins.unchanged(it, "dies by BAD", s -> it.refusesOutside("part of seven", 0, 6, s::dies, BAD));
        it.is("of no PARTS the first", new SkinShow().dies(0), BAD);
    }

    private static void diesNo() {
        Sentence it = Sentence.of(5, "NO: it is.");
        Twins.unchanged(it, "dies by NO", s -> {
            it.is("DEAD from the first", s.dies(5), NO);
            it.is("one that died", s.dies(3), NO);
        });
    }

    private static void nerve() {
        Sentence it = Sentence.of(6, "GROUP (what 0), WEIGHT (1) of a NERVE becomes v: what it was.");
        SkinShow s = new SkinShow();
        for (int nerve = 0; nerve <= 9; nerve += 9) {
            it.is("GROUP", s.nerve(nerve, 0, 5), 0);
            it.is("the same again", s.nerve(nerve, 0, 5), 5);
            it.is("back", s.nerve(nerve, 0, 0), 5);
            it.is("WEIGHT", s.nerve(nerve, 1, 9), 5);
            it.is("the least", s.nerve(nerve, 1, 1), 9);
            it.is("what it was", s.nerve(nerve, 1, 5), 1);
        }
        it.is("another NERVE", s.nerve(4, 0, 3), 0);
    }

    private static void nerveBad() {
        Sentence it = Sentence.of(6, "BAD.");
        Twins.unchanged(it, "a NERVE by BAD", s -> {
            it.refusesOutside("nerve", 0, 9, nerve -> s.nerve(nerve, 0, 1), BAD);
            it.refusesOutside("what", 0, 1, what -> s.nerve(0, what, 1), BAD);
            it.refusesOutside("GROUP", 0, 5, v -> s.nerve(0, 0, v), BAD);
            it.refusesOutside("WEIGHT", 1, 9, v -> s.nerve(0, 1, v), BAD);
        });
    }

    private static void pull() {
        Sentence it = Sentence.of(7, "PULL of a GROUP becomes v: what it was.");
        SkinShow s = new SkinShow();
        for (int group = 0; group <= 5; group++) {
            it.is("the most", s.pull(group, 9), 0);
            it.is("one less", s.pull(group, 8), 9);
            it.is("the same again", s.pull(group, 8), 8);
            it.is("the least", s.pull(group, 0), 8);
        }
    }

    private static void pullBad() {
        Sentence it = Sentence.of(7, "BAD.");
        Twins.unchanged(it, "a PULL by BAD", s -> {
            it.refusesOutside("group", 0, 5, group -> s.pull(group, 1), BAD);
            it.refusesOutside("v", 0, 9, v -> s.pull(0, v), BAD);
        });
    }

    private static void rule() {
        Sentence it = Sentence.of(8, "What = 0 TONE (0 .. 99), 1 ABOVE (0 .. 9), 2 EDGE (1 .. 99), 3 TELLS (1 .. 48) "
            + "becomes v: what it was.");
        SkinShow s = new SkinShow();
        int[] first = {50, 0, 20, 6};
        int[] least = {0, 0, 1, 1};
        int[] most = {99, 9, 99, 48};
        for (int what = TONE; what <= TELLS; what++) {
            it.is("the least of " + what, s.rule(what, least[what]), first[what]);
            it.is("the most of " + what, s.rule(what, most[what]), least[what]);
            it.is("the same of " + what, s.rule(what, most[what]), most[what]);
        }
        for (int what = TONE; what <= TELLS; what++) {
            it.is("each its own, " + what, s.rule(what, first[what]), most[what]);
        }
    }

    private static void ruleBad() {
        Sentence it = Sentence.of(8, "BAD.");
        Twins.unchanged(it, "a rule by BAD", s -> {
            it.refusesOutside("what", 0, 3, what -> s.rule(what, 1), BAD);
            it.refusesOutside("TONE", 0, 99, v -> s.rule(TONE, v), BAD);
            it.refusesOutside("ABOVE", 0, 9, v -> s.rule(ABOVE, v), BAD);
            it.refusesOutside("EDGE", 1, 99, v -> s.rule(EDGE, v), BAD);
            it.refusesOutside("TELLS", 1, 48, v -> s.rule(TELLS, v), BAD);
        });
    }

    private static void show() {
        Sentence it = Sentence.of(9, "Of a PLACE (0 .. 47): what 0 LIGHT, 1 WAS (50 at first), 2 the PART there (NONE), "
            + "3 HEIGHT.");
        SkinShow s = new SkinShow();
        s.rule(TONE, 30);
        it.is("WAS at first, whatever LIGHT is", s.show(0, 1), 50);
        s.part(DEAD, 0, 9, 9, 0);
        s.part(BUMP, 47, 0, 4, 0);
        s.pull(0, 9);
        s.tick(2);
        int[][] want = {{30, 30, 0, 0}, {30, 30, NONE, 0}, {32, 31, 1, 2}};
        int[] place = {0, 46, 47};
        for (int i = 0; i < 3; i++) {
            for (int what = 0; what <= 3; what++) {
                it.is("show(" + place[i] + ", " + what + ")", s.show(place[i], what), want[i][what]);
            }
        }
    }

    private static void showBad() {
        Sentence it = Sentence.of(9, "BAD.");
        Twins.unchanged(it, "showing by BAD", s -> {
            it.refusesOutside("place", 0, 47, place -> s.show(place, 0), BAD);
            it.refusesOutside("what", 0, 3, what -> s.show(0, what), BAD);
        });
    }

    private static void tick() {
        Sentence it = Sentence.of(10, "n (1 .. 60) TICKS go by: the TICK.");
        SkinShow s = one(PART, 0, 9, 5, 9);
        it.is("the least", s.tick(1), 1);
        it.is("one went by", s.told(0, 5), 1);
        it.is("five", s.tick(5), 6);
        it.is("five went by", s.told(0, 5), 6);
        it.is("the most", s.tick(60), 66);
        it.is("all went by", s.told(0, 5), 9);
    }

    private static void tickBad() {
        Sentence it = Sentence.of(10, "BAD; FULL: it would be above 9999.");
        Twins.unchanged(it, "a TICK by BAD", s -> it.refusesOutside("n", 1, 60, s::tick, BAD));
    }

    private static void tickFull() {
        Sentence it = Sentence.of(10, "FULL: it would be above 9999.");
        SkinShow s = late(9940);
        s.part(BAG, 0, 1, 9, 0);
        s.pull(0, 9);
        it.is("60 would be 10000", s.tick(60), FULL);
        it.is("none of them went by", s.count(13), 9940);
        it.is("nor a SIZE", s.count(6), 0);
        it.is("59 is 9999", s.tick(59), 9999);
        it.is("one more", s.tick(1), FULL);
        it.is("sixty more", s.tick(60), FULL);
        it.is("BAD stands ahead: 61", s.tick(61), BAD);
        it.is("BAD stands ahead: 0", s.tick(0), BAD);
        it.is("BAD stands ahead: the greatest int", s.tick(Due.MOST), BAD);
        it.is("9999 stays", s.count(13), 9999);
        Twins.unchanged(it, "TICKS by FULL", twin -> {
            for (int i = 0; i < 166; i++) {
                twin.tick(60);
            }
            twin.tick(30);
            twin.pull(0, 0);
            twin.rule(TONE, 77);
        }, twin -> it.is("9993 and 7", twin.tick(7), FULL), twin -> { });
        SkinShow rim = late(9939);
        it.is("9939 and 60", rim.tick(60), 9999);
    }

    private static void rest() {
        Sentence it = Sentence.of(11, "All is AT REST at once (WAS as LIGHT is then, behind it; the TICK stays): "
            + "how many SIZES changed.");
        SkinShow s = new SkinShow();
        s.part(BAG, 0, 5, 9, 0);
        s.part(MIRROR, 1, 0, 9, 0);
        s.part(WHITE, 2, 0, 0, 0);
        s.pull(0, 4);
        s.tick(1);
        s.rule(TONE, 60);
        it.is("two of three", s.rest(), 2);
        it.is("the TICK stays", s.count(13), 1);
        it.is("WAS of the BAG", s.show(0, 1), 60 - 20);
        it.is("WAS of the MIRROR", s.show(1, 1), 60 + 10);
        it.is("WAS of an empty PLACE", s.show(47, 1), 60);
        it.is("at once again", s.rest(), 0);
        s.pull(0, 5);
        s.tick(1);
        it.is("there by itself", s.rest(), 0);
        it.is("but WAS is as LIGHT now", s.show(0, 1), 60 - 25);
    }

    private static void restOfNone() {
        Sentence it = Sentence.of(11, "how many SIZES changed.");
        SkinShow s = new SkinShow();
        it.is("without PARTS", s.rest(), 0);
        s.rule(TONE, 7);
        it.is("none", s.rest(), 0);
        it.is("WAS all the same", s.show(0, 1), 7);
        s.part(DEAD, 0, 9, 9, 0);
        s.part(WHITE, 1, 9, 0, 0);
        s.part(BAG, 2, 9, 9, 0);
        it.is("a DEAD one, one of SPAN 0, one that is not pulled", s.rest(), 0);
    }

    private static void restOfAll() {
        Sentence it = Sentence.of(11, "All is AT REST at once");
        SkinShow s = new SkinShow();
        for (int place = 0; place < 48; place++) {
            s.part(place % 5, place, 0, 8, 0);
        }
        s.pull(0, 4);
        it.is("48 SIZES", s.rest(), 48);
        it.is("no TICK is needed", s.still(), 0);
        // ten each of PARTS 4, BAGS 4 and MIRRORS 4, nine each of WHITES 8 and BUMPS 2
        it.is("all SIZES together", s.count(6), 10 * 4 + 10 * 4 + 10 * 4 + 9 * 8 + 9 * 2);
        s.pull(0, 3);
        it.is("again, without the WHITES", s.rest(), 39);
    }

    private static void still() {
        Sentence it = Sentence.of(12, "How many TICKS it takes till all is AT REST (0: it is).");
        it.is("without PARTS", new SkinShow().still(), 0);
        it.is("not pulled", one(BAG, 5, 9, 5, 0).still(), 0);
        int[] plain = {0, 1, 2, 3, 4, 5, 6, 7, 8, 9};
        int[] byTwo = {0, 1, 1, 2, 2, 3, 3, 4, 4, 5};
        for (int way = 0; way <= 9; way++) {
            it.is("a PART, " + way, one(PART, 5, 9, 5, way).still(), plain[way]);
            it.is("a BAG of a 5, " + way, one(BAG, 5, 9, 5, way).still(), byTwo[way]);
            it.is("a MIRROR, " + way, one(MIRROR, 0, way, 5, 0).still(), byTwo[way]);
            it.is("a WHITE, " + way, one(WHITE, 0, way, 5, 0).still(), way == 0 ? 0 : 1);
            it.is("a DEAD one, " + way, one(DEAD, 5, 9, 5, way).still(), 0);
        }
        SkinShow s = new SkinShow();
        s.part(PART, 0, 0, 9, 1);
        s.nerve(1, 0, 1);
        s.part(MIRROR, 1, 0, 9, 0);
        s.pull(1, 4);
        it.is("the longest of them", s.still(), 5);
        s.pull(1, 6);
        it.is("the longest of them", s.still(), 6);
        it.is("the same, found by going", goesTillRest(s), 6);
        Twins.unchanged(it, "asking how long", twin -> twin.still());
    }

    private static int goesTillRest(SkinShow s) {
        int ticks = 0;
        while (ticks < 60 && s.still() > 0) {
            s.tick(1);
            ticks++;
        }
        return ticks;
    }

    private static void change() {
        Sentence it = Sentence.of(13, "THE CHANGE.");
        it.is("a BAG", one(BAG, 9, 9, 5, 9).change(), 18);
        Sentence terms = Sentence.terms(4, "THE CHANGE: the most that LIGHT of a PLACE changes in any one TICK from now on "
            + "till all is AT REST, if nobody does anything (0, if it is).");
        terms.is("without PARTS", new SkinShow().change(), 0);
        SkinShow s = one(BAG, 9, 9, 5, 9);
        s.rest();
        terms.is("AT REST", s.change(), 0);
        s.rule(TONE, 99);
        terms.is("by a TONE of another kind: still AT REST", s.change(), 0);
        s.pull(0, 0);
        // SIZES 9, 7, 5, 3, 1, 0: LIGHT 18, 36, 54, 72, 90, 99
        terms.is("brighter", s.change(), 18);
        SkinShow last = one(BAG, 9, 9, 5, 9);
        last.rule(TONE, 10);
        last.rest();
        last.pull(0, 0);
        // SIZES 9, 7, 5, 3, 1, 0: LIGHT 0, 0, 0, 0, 1, 10
        terms.is("the most is in the last TICK", last.change(), 9);
        SkinShow below = one(BUMP, 0, 9, 5, 9);
        below.rule(TONE, 99);
        below.rule(ABOVE, 9);
        terms.is("of a PLACE without a PART: 9 down", below.change(), 9);
        SkinShow rim = new SkinShow();
        rim.part(BUMP, 47, 0, 9, 0);
        rim.pull(0, 9);
        rim.rule(ABOVE, 9);
        terms.is("of the last PLACE", rim.change(), 10);
        Twins.unchanged(terms, "asking for THE CHANGE", twin -> twin.change());
    }
}
