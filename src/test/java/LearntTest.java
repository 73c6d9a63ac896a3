/** Promises 31 to 37: what is learnt. */
public final class LearntTest {
    private static final int BAD = Due.BAD, FULL = Due.FULL, NONE = Due.NONE;
    private static final Due due = new Due("LearntTest");

    public static void main(String[] args) {
        learn();
        learntAsThen();
        apart();
        eachQuestion();
        fewest();
        fewestOfTwo();
        fewestOfOneBehindTwo();
        fewestOfFour();
        watch();
        alike();
        kinds();
        kindsOfManyParts();
        parts();
        due.end();
    }

    private static void learn() {
        SkinShow s = new SkinShow();
        due.is(31, "ground -1", s.learn(-1, 0), BAD);
        due.is(31, "ground 4", s.learn(4, 0), BAD);
        due.is(31, "answer -1", s.learn(0, -1), BAD);
        due.is(31, "answer 10", s.learn(0, 10), BAD);
        for (int i = 0; i < 8; i++) {
            due.is(31, "one more", s.learn(i % 4, i + 2), i);
        }
        due.is(31, "the ninth", s.learn(0, 0), FULL);
        due.is(31, "BAD ahead of FULL", s.learn(0, 10), BAD);
        due.is(42, "eight", s.count(8), 8);
    }

    private static void learntAsThen() {
        SkinShow s = new SkinShow();
        Due.line(s, 0, 99);
        s.learn(0, 1);
        s.put(0, 0, 50);
        s.learn(0, 2);
        due.is(31, "light as it was then", s.apart(1), 1);
        s.put(0, 0, 99);
        due.is(31, "it stays as learnt", s.apart(1), 1);
        SkinShow edge = new SkinShow();
        Due.line(edge, 0, 80);
        edge.learn(0, 1);
        edge.rule(2, 31);
        edge.learn(0, 2);
        due.is(31, "edges by the EDGE of then", edge.apart(4), 1);
        due.is(31, "bright ones, too", edge.apart(8), 1);
        due.is(31, "not how light", edge.apart(1), 0);
        due.is(31, "nor how rough", edge.apart(2), 0);
    }

    private static void apart() {
        SkinShow s = new SkinShow();
        due.is(32, "set -1", s.apart(-1), BAD);
        due.is(32, "set 16", s.apart(16), BAD);
        for (int set = 0; set < 16; set++) {
            due.is(32, "nothing learnt", s.apart(set), 1);
        }
        s.learn(0, 4);
        due.is(32, "one learnt", s.apart(0), 1);
        s.learn(1, 4);
        due.is(32, "of one ANSWER", s.apart(0), 1);
        s.learn(2, 5);
        for (int set = 0; set < 16; set++) {
            due.is(32, "unlike ANSWERS, alike GROUNDS", s.apart(set), 0);
        }
        s.line(3, 1, 1);
        SkinShow three = new SkinShow();
        Due.shade(three, 0, 10);
        Due.shade(three, 1, 20);
        three.learn(0, 1);
        three.learn(1, 2);
        due.is(32, "0: apart", three.apart(1), 1);
        due.is(32, "without 0", three.apart(14), 0);
        due.is(32, "with others", three.apart(15), 1);
        three.learn(1, 1);
        due.is(32, "the last two are not", three.apart(15), 0);
    }

    /** A plain GROUND 0, and others that differ from it in some questions alone. */
    private static void eachQuestion() {
        int[][] lines = {{54, 54, 54, 54, 54, 54, 54, 54}, {69, 31, 69, 31, 50}, {70, 50, 30, 50, 50},
            {50, 70, 50, 30}};
        // what differs from the plain one: light 0, rough 1, edges 2, bright 3
        for (int i = 0; i < lines.length; i++) {
            SkinShow s = new SkinShow();
            Due.line(s, 6, lines[i]);
            s.learn(0, 1);
            s.learn(1, 2);
            for (int question = 0; question < 4; question++) {
                boolean differs = s.ask(0, question) != s.ask(1, question);
                due.is(32, "question " + question + " of " + i, s.apart(1 << question), differs ? 1 : 0);
            }
        }
    }

    private static void fewest() {
        SkinShow s = new SkinShow();
        due.is(33, "nothing learnt", s.fewest(), 0);
        Due.shade(s, 1, 60);
        s.learn(0, 1);
        due.is(33, "one learnt", s.fewest(), 0);
        s.learn(1, 1);
        due.is(33, "of one ANSWER", s.fewest(), 0);
        s.learn(1, 2);
        due.is(33, "no set does", s.fewest(), NONE);
        SkinShow edges = new SkinShow();
        Due.line(edges, 0, 70);
        edges.learn(0, 1);
        edges.learn(1, 2);
        due.is(33, "2 or 3 do: 2 is less", edges.fewest(), 4);
        SkinShow bright = new SkinShow();
        // 2 edges each, but a bright corner here, and a dark one there
        Due.line(bright, 0, 70);
        Due.line(bright, 6, 30);
        bright.learn(0, 1);
        bright.learn(1, 2);
        due.is(33, "3 by light, too: 0 is less", bright.fewest(), 1);
        due.is(33, "3 does", bright.apart(8), 1);
        due.is(33, "2 does not", bright.apart(4), 0);
    }

    private static void fewestOfTwo() {
        SkinShow s = new SkinShow();
        // light, and edges: GROUND 0 plain, 1 lighter, 2 with an edge (light enough to be as light as 0)
        Due.shade(s, 1, 60);
        Due.line(s, 12, 70, 50, 50, 50, 50, 50, 50, 30);
        s.learn(0, 1);
        s.learn(1, 2);
        s.learn(2, 3);
        due.is(33, "light alone does not", s.apart(1), 0);
        due.is(33, "edges alone do not", s.apart(4), 0);
        due.is(33, "rough and light do not", s.apart(3), 0);
        due.is(33, "light and edges", s.fewest(), 5);
        due.is(33, "light and bright ones do, too", s.apart(9), 1);
    }

    private static void learnShade(SkinShow s, int shade, int answer, int... first) {
        Due.shade(s, 0, shade);
        Due.line(s, 0, first);
        s.learn(0, answer);
    }

    private static void fewestOfOneBehindTwo() {
        SkinShow s = new SkinShow();
        learnShade(s, 50, 1);
        // lighter and with edges, as rough; then rough and with edges, as light
        learnShade(s, 51, 2, 71, 51, 51, 51, 51, 51, 51, 51);
        learnShade(s, 50, 3, 70, 30, 70, 30, 70, 30, 70, 30);
        due.is(33, "light does not", s.apart(1), 0);
        due.is(33, "rough does not", s.apart(2), 0);
        due.is(33, "both do", s.apart(3), 1);
        due.is(33, "but edges do alone", s.fewest(), 4);
    }

    private static void fewestOfFour() {
        SkinShow s = new SkinShow();
        learnShade(s, 50, 1);
        learnShade(s, 51, 2, 51, 51, 51, 51, 51, 51, 51, 51);
        due.is(33, "light", s.fewest(), 1);
        learnShade(s, 50, 3, 55, 45, 55, 45, 55, 45, 55, 45);
        due.is(33, "light and rough", s.fewest(), 3);
        learnShade(s, 50, 4, 60, 40);
        due.is(33, "and edges", s.fewest(), 7);
        // two edges each, as light, a dark corner and a bright one
        Due.shade(s, 0, 51);
        Due.line(s, 0, 20);
        s.line(5, -1, 0);
        s.learn(0, 5);
        due.is(33, "still those three", s.fewest(), 7);
        learnShade(s, 50, 6, 80);
        due.is(33, "all four", s.fewest(), 15);
        due.is(32, "three of them do not", s.apart(7), 0);
        learnShade(s, 50, 7, 80);
        due.is(33, "none", s.fewest(), NONE);
    }

    private static void watch() {
        SkinShow s = new SkinShow();
        due.is(34, "set -1", s.watch(-1), BAD);
        due.is(34, "the least int", s.watch(Due.LEAST), BAD);
        due.is(34, "bit 29", s.watch(1 << 29), BAD);
        due.is(34, "the most int", s.watch(Due.MOST), BAD);
        due.is(34, "all 29", s.watch((1 << 29) - 1), 0);
        due.is(34, "none", s.watch(0), 1);
        for (int i = 2; i < 12; i++) {
            due.is(34, "one more", s.watch(1 << i), i);
        }
        due.is(34, "the thirteenth", s.watch(0), FULL);
        due.is(34, "BAD ahead of FULL", s.watch(-1), BAD);
        due.is(42, "twelve", s.count(9), 12);
        due.is(35, "with twelve rows", s.alike(27, 28), 1);
        due.is(36, "of no PARTS", s.kinds(-1), 0);
        due.is(36, "without the last row", s.kinds(11), 0);
        due.is(36, "row 12", s.kinds(12), BAD);
        due.is(37, "of twelve", s.parts(), 0);
        s.part(0, 0, 0, 0, 0);
        due.is(36, "of one", s.kinds(-1), 1);
    }

    private static void alike() {
        SkinShow s = new SkinShow();
        due.is(35, "one -1", s.alike(-1, 0), BAD);
        due.is(35, "one 29", s.alike(29, 0), BAD);
        due.is(35, "other -1", s.alike(0, -1), BAD);
        due.is(35, "other 29", s.alike(0, 29), BAD);
        due.is(35, "one PART", s.alike(28, 28), BAD);
        due.is(35, "no rows", s.alike(0, 28), 1);
        s.watch(1 << 28 | 5);
        due.is(35, "both in", s.alike(0, 28), 1);
        due.is(35, "told the other way", s.alike(28, 0), 1);
        due.is(35, "both not in", s.alike(1, 27), 1);
        due.is(35, "one in", s.alike(27, 28), 0);
        s.watch(1);
        due.is(35, "in the last row one", s.alike(0, 28), 0);
        due.is(35, "in the first row both", s.alike(2, 28), 1);
    }

    private static void kinds() {
        SkinShow s = new SkinShow();
        due.is(36, "row 0 of none", s.kinds(0), BAD);
        due.is(36, "row -2", s.kinds(-2), BAD);
        due.is(36, "no PARTS", s.kinds(-1), 0);
        for (int place = 0; place < 4; place++) {
            s.part(0, place, 0, 0, 0);
        }
        due.is(36, "no rows", s.kinds(-1), 1);
        s.watch(0b0011);
        s.watch(0b0101);
        s.watch(0b0100);
        // PART 0 in rows 0, 1; 1 in row 0; 2 in rows 1, 2; 3 in none
        int[] want = {4, 3, 3, 4};
        for (int row = -1; row < 3; row++) {
            due.is(36, "kinds(" + row + ")", s.kinds(row), want[row + 1]);
        }
        due.is(36, "row 3", s.kinds(3), BAD);
        s.dies(0);
        due.is(36, "a DEAD one, too", s.kinds(-1), 4);
    }

    private static void kindsOfManyParts() {
        SkinShow s = new SkinShow();
        for (int place = 0; place < 40; place++) {
            s.part(0, place, 0, 0, 0);
        }
        due.is(36, "one kind", s.kinds(-1), 1);
        for (int row = 0; row < 5; row++) {
            int set = 0;
            for (int part = 0; part < 29; part++) {
                set |= (part >> row & 1) << part;
            }
            s.watch(set);
        }
        due.is(36, "29 kinds, PARTS from 29 on are not asked", s.kinds(-1), 29);
        due.is(36, "without the lowest", s.kinds(0), 15);
        due.is(36, "without the highest", s.kinds(4), 16);
        due.is(37, "the lowest parts most", s.parts(), 0);
        SkinShow twice = new SkinShow();
        for (int place = 0; place < 29; place++) {
            twice.part(0, place, 0, 0, 0);
        }
        for (int row = 0; row < 10; row++) {
            int set = 0;
            for (int part = 0; part < 29; part++) {
                set |= (part >> row / 2 & 1) << part;
            }
            twice.watch(set);
        }
        due.is(36, "29 kinds without any one", twice.kinds(9), 29);
        due.is(37, "so the least", twice.parts(), 0);
    }

    private static void parts() {
        SkinShow s = new SkinShow();
        due.is(37, "no rows", s.parts(), NONE);
        s.watch(1);
        due.is(37, "no PARTS", s.parts(), 0);
        for (int place = 0; place < 4; place++) {
            s.part(0, place, 0, 0, 0);
        }
        s.watch(1);
        due.is(37, "two alike: the least", s.parts(), 0);
        s.watch(2);
        due.is(37, "the one without which fewest are", s.parts(), 2);
        s.watch(0);
        s.watch(4);
        due.is(37, "of two the least", s.parts(), 2);
        s.watch(2);
        due.is(37, "then the other one", s.parts(), 4);
    }
}
