/** The sentences of part 4 of the Terms on what is learnt, and of promises 31 to 37, that name a boundary case. */
public final class LearntSentencesTest {
    private static final int BAD = Due.BAD, FULL = Due.FULL, NONE = Due.NONE;
    private static final int EDGE = 2;
    private static final int ALL_29 = (1 << 29) - 1;

    public static void main(String[] args) {
        termsOfLearnt();
        termsOfQuestionsAsThen();
        termsOfApart();
        termsOfAllTwos();
        termsOfTheFewest();
        termsOfTheLeast();
        termsOfWatched();
        termsOfAlike();
        termsOfKinds();
        termsOfPartsThatThereAre();
        termsOfTheRow();
        learn();
        learnBad();
        learnFull();
        apart();
        apartBad();
        fewest();
        fewestNone();
        watch();
        watchBad();
        watchFull();
        alike();
        alikeBad();
        kinds();
        kindsBad();
        parts();
        Sentence.end("LearntSentencesTest");
    }

    // Grounds by what they answer to the four questions: light, rough, edges, bright ones.
    // The first is plain (50, 0, 0, 0); of the next three each differs from it in one question; the last two differ in
    // the number of bright ones alone.
    private static final int PLAIN = 0, LIGHT = 1, ROUGH = 2, EDGES = 3, DARK = 4, BRIGHT = 5;
    private static final int[][] ANSWERS = {{50, 0, 0, 0}, {51, 0, 0, 0}, {50, 1, 0, 0}, {50, 0, 1, 0}, {50, 0, 2, 0},
        {50, 0, 2, 1}};

    private static void draw(SkinShow s, int ground, int sort) {
        Due.shade(s, ground, sort == LIGHT || sort == DARK ? 51 : 50);
        if (sort == ROUGH) {
            Due.line(s, 6 * ground, 55, 45, 55, 45, 55, 45, 55, 45);
        } else if (sort == EDGES) {
            Due.line(s, 6 * ground, 60, 40);
        } else if (sort == DARK) {
            Due.line(s, 6 * ground, 20, 51, 51, 51, 51, 51, 51, 51);
            s.line(6 * ground + 5, -1, 0);
        } else if (sort == BRIGHT) {
            Due.line(s, 6 * ground, 80);
        }
    }

    private static void learn(Sentence it, SkinShow s, int sort, int answer) {
        draw(s, 0, sort);
        for (int question = 0; question < 4; question++) {
            it.is("question " + question + " of what is drawn", s.ask(0, question), ANSWERS[sort][question]);
        }
        it.is("is learnt", s.learn(0, answer) >= 0 ? 1 : 0, 1);
    }

    // ---- Terms, part 4: learnt grounds

    private static void termsOfLearnt() {
        Sentence it = Sentence.terms(4, "LEARNT GROUNDS, 8 at most, numbered from 0: the four QUESTIONS of a GROUND as it is "
            + "then, and an ANSWER 0 .. 9.");
        SkinShow s = new SkinShow();
        for (int i = 0; i < 8; i++) {
            it.is("its number", s.learn(i % 4, 9 - i), i);
        }
        it.is("the ninth", s.learn(0, 0), FULL);
        it.is("eight", s.count(8), 8);
        SkinShow answers = new SkinShow();
        it.takes("ANSWER", 0, 9, answer -> answers.learn(0, answer));
        it.refusesOutside("ANSWER", 0, 9, answer -> answers.learn(0, answer), BAD);
        it.is("0 and 9 are unlike ANSWERS", answers.apart(15), 0);
    }

    private static void termsOfQuestionsAsThen() {
        Sentence it = Sentence.terms(4, "the four QUESTIONS of a GROUND as it is then");
        SkinShow s = new SkinShow();
        learn(it, s, PLAIN, 1);
        learn(it, s, LIGHT, 2);
        draw(s, 0, ROUGH);
        it.is("how light as then", s.apart(1), 1);
        it.is("how rough as then", s.apart(2), 0);
        SkinShow edge = new SkinShow();
        Due.line(edge, 0, 80);
        edge.learn(0, 1);
        edge.rule(EDGE, 31);
        it.is("nothing but EDGE is another one", edge.learn(0, 2), 1);
        int[] apart = {0, 0, 0, 0, 1, 1, 1, 1, 1, 1, 1, 1, 1, 1, 1, 1};
        for (int set = 0; set <= 15; set++) {
            it.is("by the EDGE of then, set " + set, edge.apart(set), apart[set]);
        }
        edge.rule(EDGE, 20);
        it.is("EDGE as at first again", edge.apart(4), 1);
    }

    private static void termsOfApart() {
        Sentence it = Sentence.terms(4, "TOLD APART by a set of QUESTIONS (bits 0 .. 15): all twos with unlike ANSWERS differ "
            + "in one of them.");
        for (int one = PLAIN; one <= BRIGHT; one++) {
            for (int other = PLAIN; other <= BRIGHT; other++) {
                SkinShow s = new SkinShow();
                draw(s, 0, one);
                draw(s, 1, other);
                s.learn(0, 3);
                s.learn(1, 4);
                for (int set = 0; set <= 15; set++) {
                    boolean differ = false;
                    for (int question = 0; question < 4; question++) {
                        differ |= (set >> question & 1) == 1 && ANSWERS[one][question] != ANSWERS[other][question];
                    }
                    it.is(one + " and " + other + " by " + set, s.apart(set), differ ? 1 : 0);
                }
            }
        }
    }

    private static void termsOfAllTwos() {
        Sentence it = Sentence.terms(4, "all twos with unlike ANSWERS differ in one of them");
        SkinShow s = new SkinShow();
        learn(it, s, PLAIN, 0);
        it.is("one alone, by the empty set", s.apart(0), 1);
        learn(it, s, LIGHT, 0);
        it.is("two of one ANSWER, by the empty set", s.apart(0), 1);
        learn(it, s, PLAIN, 0);
        it.is("the same GROUND with the same ANSWER", s.apart(0), 1);
        learn(it, s, ROUGH, 9);
        it.is("by the empty set", s.apart(0), 0);
        it.is("by how rough", s.apart(2), 1);
        it.is("not by how light: two of the three are as light", s.apart(1), 0);
        learn(it, s, ROUGH, 0);
        it.is("the first and the last one are told apart, the last two are not", s.apart(15), 0);
    }

    private static void termsOfTheFewest() {
        Sentence it = Sentence.terms(4, "THE FEWEST: of all sets that do so that of the fewest, then the least as bits.");
        for (int set = 0; set <= 15; set++) {
            SkinShow s = new SkinShow();
            learn(it, s, PLAIN, 0);
            for (int question = 0; question < 3; question++) {
                if ((set >> question & 1) == 1) {
                    learn(it, s, LIGHT + question, 1 + question);
                }
            }
            if ((set & 8) == 8) {
                // BRIGHT differs from PLAIN in edges, too, but from DARK in bright ones alone
                learn(it, s, DARK, 0);
                learn(it, s, BRIGHT, 4);
            }
            it.is("just the set " + set, s.fewest(), set);
            it.is("it does so", s.apart(set), 1);
        }
    }

    private static void termsOfTheLeast() {
        Sentence it = Sentence.terms(4, "then the least as bits");
        SkinShow s = new SkinShow();
        learn(it, s, PLAIN, 1);
        learn(it, s, BRIGHT, 2);
        it.is("4 or 8", s.fewest(), 4);
        SkinShow rough = new SkinShow();
        learn(it, rough, ROUGH, 1);
        learn(it, rough, BRIGHT, 2);
        it.is("2, 4 or 8", rough.fewest(), 2);
        SkinShow light = new SkinShow();
        learn(it, light, LIGHT, 1);
        learn(it, light, BRIGHT, 2);
        it.is("1, 4 or 8", light.fewest(), 1);
        SkinShow two = new SkinShow();
        learn(it, two, PLAIN, 1);
        learn(it, two, LIGHT, 2);
        learn(it, two, BRIGHT, 3);
        it.is("1 and 4, or 1 and 8", two.fewest(), 5);
        SkinShow fewer = new SkinShow();
        learn(it, fewer, PLAIN, 1);
        Due.shade(fewer, 0, 51);
        Due.line(fewer, 0, 71, 51, 51, 51, 51, 51, 51, 51);
        fewer.learn(0, 2);
        Due.shade(fewer, 0, 50);
        Due.line(fewer, 0, 70, 30, 70, 30, 70, 30, 70, 30);
        fewer.learn(0, 3);
        it.is("1 and 2 together do so", fewer.apart(3), 1);
        it.is("neither alone", fewer.apart(1) + fewer.apart(2), 0);
        it.is("4 alone does so: fewer, though more as bits", fewer.fewest(), 4);
    }

    // ---- Terms, part 4: watched rows

    private static void termsOfWatched() {
        Sentence it = Sentence.terms(4, "WATCHED, 12 rows at most, numbered from 0: which PARTS moved (bits 0 .. 28, as told).");
        SkinShow s = new SkinShow();
        for (int row = 0; row < 12; row++) {
            it.is("its number", s.watch(row == 0 ? ALL_29 : 1 << row), row);
        }
        it.is("the thirteenth", s.watch(0), FULL);
        it.is("twelve", s.count(9), 12);
        for (int part = 0; part <= 28; part++) {
            SkinShow one = new SkinShow();
            one.watch(1 << part);
            it.is("the bit of PART " + part, one.alike(part, (part + 1) % 29), 0);
            it.is("the bits beside", one.alike((part + 1) % 29, (part + 2) % 29), 1);
        }
        it.is("as told, whether such PARTS are or not", s.count(0), 0);
    }

    private static void termsOfAlike() {
        Sentence it = Sentence.terms(4, "ALIKE are two PARTS (0 .. 28) if they are in just the same rows;");
        SkinShow s = new SkinShow();
        it.is("no rows", s.alike(0, 28), 1);
        s.watch(ALL_29);
        it.is("all in", s.alike(0, 28), 1);
        s.watch(0);
        it.is("none in", s.alike(0, 28), 1);
        for (int row = 2; row < 11; row++) {
            s.watch(1 | 1 << 28);
        }
        it.is("the first and the last in all", s.alike(0, 28), 1);
        it.is("one in all, another one in the first", s.alike(28, 27), 0);
        s.watch(1);
        it.is("unlike in the last of twelve rows", s.alike(28, 0), 0);
        it.is("others are still alike", s.alike(1, 27), 1);
    }

    private static void termsOfKinds() {
        Sentence it = Sentence.terms(4, "KINDS OF NERVES: of the PARTS that there are (0 .. 28) how many unlike ones by "
            + "rows.");
        SkinShow s = new SkinShow();
        for (int place = 0; place < 48; place++) {
            s.part(0, place, 0, 0, 0);
        }
        it.is("no rows: all are alike", s.kinds(-1), 1);
        int[] kinds = {2, 4, 8, 16, 29};
        for (int row = 0; row < 5; row++) {
            int set = 0;
            for (int part = 0; part < 29; part++) {
                set |= (part >> row & 1) << part;
            }
            s.watch(set);
            it.is("behind row " + row, s.kinds(-1), kinds[row]);
        }
    }

    private static void termsOfPartsThatThereAre() {
        Sentence it = Sentence.terms(4, "of the PARTS that there are (0 .. 28)");
        SkinShow s = new SkinShow();
        s.watch(1 | 1 << 28);
        s.watch(2 | 1 << 27);
        it.is("no PARTS", s.kinds(-1), 0);
        int[] kinds = {1, 2, 3};
        for (int place = 0; place < 26; place++) {
            s.part(place % 6, place, 0, 0, 0);
            it.is(place + 1 + " PARTS", s.kinds(-1), kinds[Math.min(2, place)]);
        }
        SkinShow last = new SkinShow();
        for (int place = 0; place < 28; place++) {
            last.part(0, place, 0, 0, 0);
        }
        last.watch(1 << 28);
        it.is("PART 28 is not there", last.kinds(-1), 1);
        last.part(0, 28, 0, 0, 0);
        it.is("PART 28 is there", last.kinds(-1), 2);
        last.part(0, 29, 0, 0, 0);
        it.is("PART 29 is not asked", last.kinds(-1), 2);
        last.dies(28);
        it.is("a DEAD one is there", last.kinds(-1), 2);
    }

    private static void termsOfTheRow() {
        Sentence it = Sentence.terms(4, "THE ROW that parts most: the one without which KINDS OF NERVES are fewest; of "
            + "several the least.");
        SkinShow s = new SkinShow();
        for (int place = 0; place < 8; place++) {
            s.part(0, place, 0, 0, 0);
        }
        s.watch(0b00000001);
        it.is("one row", s.parts(), 0);
        s.watch(0b00001110);
        // kinds: 3; without 0: 2, without 1: 2
        it.is("two alike: the least", s.parts(), 0);
        s.watch(0b01010101);
        s.watch(0b01010101);
        // the twins part nothing by themselves
        it.is("two twins more", s.kinds(-1), 5);
        it.is("without the first", s.kinds(0), 4);
        it.is("without the second", s.kinds(1), 3);
        it.is("without a twin", s.kinds(2), 5);
        it.is("the second", s.parts(), 1);
        SkinShow of = new SkinShow();
        for (int place = 0; place < 8; place++) {
            of.part(0, place, 0, 0, 0);
        }
        of.watch(0b10000000);
        of.watch(0b00001111);
        of.watch(0b00110011);
        int[] kinds = {5, 4, 3, 3};
        for (int row = -1; row <= 2; row++) {
            it.is("three rows, without " + row, of.kinds(row), kinds[row + 1]);
        }
        it.is("of the last two the least", of.parts(), 1);
    }

    // ---- Promises 31 to 37

    private static void learn() {
        Sentence it = Sentence.of(31, "One more LEARNT GROUND: its number.");
        SkinShow s = new SkinShow();
        it.takes("ground", 0, 3, ground -> s.learn(ground, 1));
        it.takes("answer", 0, 9, answer -> s.learn(0, answer));
        it.is("the fifth", s.learn(3, 4), 4);
        it.is("five", s.count(8), 5);
        SkinShow last = new SkinShow();
        draw(last, 3, LIGHT);
        last.learn(3, 1);
        last.learn(2, 2);
        it.is("of the GROUND told", last.apart(1), 1);
    }

    private static void learnBad() {
        Sentence it = Sentence.of(31, "BAD; FULL.");
        Twins.unchanged(it, "learn by BAD", s -> {
            it.refusesOutside("ground", 0, 3, ground -> s.learn(ground, 0), BAD);
            it.refusesOutside("answer", 0, 9, answer -> s.learn(0, answer), BAD);
        });
    }

    private static void learnFull() {
        Sentence it = Sentence.of(31, "FULL.");
        Twins.unchanged(it, "learn by FULL", s -> {
            for (int i = 2; i < 8; i++) {
                it.is("one more", s.learn(0, 1), i);
            }
        }, s -> {
            it.is("the ninth", s.learn(3, 7), FULL);
            it.is("BAD ahead of FULL: ground", s.learn(4, 7), BAD);
            it.is("BAD ahead of FULL: answer", s.learn(3, 10), BAD);
        }, s -> { });
    }

    private static void apart() {
        Sentence it = Sentence.of(32, "Whether a set of QUESTIONS tells all APART: 1, 0.");
        SkinShow s = new SkinShow();
        for (int set = 0; set <= 15; set++) {
            it.is("nothing learnt, set " + set, s.apart(set), 1);
        }
        learn(it, s, PLAIN, 1);
        learn(it, s, EDGES, 2);
        for (int set = 0; set <= 15; set++) {
            it.is("edges alone differ, set " + set, s.apart(set), set >> 2 & 1);
        }
    }

    private static void apartBad() {
        Sentence it = Sentence.of(32, "BAD.");
        Twins.unchanged(it, "apart by BAD", s -> it.refusesOutside("set", 0, 15, s::apart, BAD));
    }

    private static void fewest() {
        Sentence it = Sentence.of(33, "THE FEWEST, as bits (0: none is needed).");
        SkinShow s = new SkinShow();
        it.is("nothing learnt", s.fewest(), 0);
        learn(it, s, PLAIN, 5);
        it.is("one learnt", s.fewest(), 0);
        learn(it, s, BRIGHT, 5);
        it.is("two of one ANSWER", s.fewest(), 0);
        learn(it, s, DARK, 6);
        it.is("one of another", s.fewest(), 12);
        Twins.unchanged(it, "asking for THE FEWEST", twin -> twin.fewest());
    }

    private static void fewestNone() {
        Sentence it = Sentence.of(33, "NONE: no set does.");
        SkinShow s = new SkinShow();
        learn(it, s, PLAIN, 5);
        learn(it, s, PLAIN, 6);
        it.is("the same GROUND with unlike ANSWERS", s.fewest(), NONE);
        SkinShow late = new SkinShow();
        for (int sort = PLAIN; sort <= BRIGHT; sort++) {
            learn(it, late, sort, sort);
        }
        it.is("all four are needed", late.fewest(), 15);
        learn(it, late, EDGES, EDGES);
        it.is("the seventh is as the fourth", late.fewest(), 15);
        learn(it, late, LIGHT, 9);
        it.is("the eighth is told otherwise", late.fewest(), NONE);
    }

    private static void watch() {
        Sentence it = Sentence.of(34, "One more row WATCHED (bits 0 .. 28): its number.");
        SkinShow s = new SkinShow();
        it.is("none of the bits", s.watch(0), 0);
        it.is("all of the bits", s.watch(ALL_29), 1);
        it.is("the first bit", s.watch(1), 2);
        it.is("the last bit", s.watch(1 << 28), 3);
        it.is("four", s.count(9), 4);
    }

    private static void watchBad() {
        Sentence it = Sentence.of(34, "BAD: below 0, or above them; FULL.");
        Twins.unchanged(it, "watch by BAD", s -> {
            it.refusesOutside("set", 0, ALL_29, s::watch, BAD);
            it.is("bit 29 and others", s.watch(1 << 29 | 5), BAD);
            it.is("bit 30", s.watch(1 << 30), BAD);
            it.is("bit 31 and others", s.watch(Due.LEAST | 5), BAD);
        });
    }

    private static void watchFull() {
        Sentence it = Sentence.of(34, "FULL.");
        Twins.unchanged(it, "watch by FULL", s -> {
            for (int i = 2; i < 12; i++) {
                it.is("one more", s.watch(7), i);
            }
        }, s -> {
            it.is("the thirteenth", s.watch(9), FULL);
            it.is("BAD ahead of FULL: below", s.watch(-1), BAD);
            it.is("BAD ahead of FULL: above", s.watch(1 << 29), BAD);
        }, s -> { });
    }

    private static void alike() {
        Sentence it = Sentence.of(35, "Whether two PARTS (0 .. 28, there or not) are ALIKE: 1, 0.");
        SkinShow s = new SkinShow();
        s.watch(0b0110);
        it.is("in the row both", s.alike(1, 2), 1);
        it.is("in the row one", s.alike(2, 3), 0);
        it.is("in the row the other one", s.alike(3, 2), 0);
        it.is("in the row none", s.alike(0, 28), 1);
        s.part(0, 0, 0, 0, 0);
        it.is("one is there, one is not", s.alike(0, 28), 1);
        it.is("one is there, one is not", s.alike(0, 1), 0);
    }

    private static void alikeBad() {
        Sentence it = Sentence.of(35, "BAD: also if they are one.");
        Twins.unchanged(it, "alike by BAD", s -> {
            it.refusesOutside("one", 0, 28, one -> s.alike(one, 1), BAD);
            it.refusesOutside("other", 0, 28, other -> s.alike(1, other), BAD);
            for (int part = 0; part <= 28; part++) {
                it.is("one PART, " + part, s.alike(part, part), BAD);
            }
        });
    }

    private static void kinds() {
        Sentence it = Sentence.of(36, "KINDS OF NERVES (row -1), or without a row.");
        SkinShow s = new SkinShow();
        s.part(0, 0, 0, 0, 0);
        s.part(0, 1, 0, 0, 0);
        s.part(0, 2, 0, 0, 0);
        it.is("no rows", s.kinds(-1), 1);
        s.watch(0b001);
        it.is("one row", s.kinds(-1), 2);
        it.is("without it", s.kinds(0), 1);
        s.watch(0b011);
        s.watch(0b010);
        int[] kinds = {3, 3, 3, 3};
        for (int row = -1; row <= 2; row++) {
            it.is("without " + row, s.kinds(row), kinds[row + 1]);
        }
        for (int row = 3; row < 12; row++) {
            s.watch(0);
        }
        it.is("without the last of twelve", s.kinds(11), 3);
    }

    private static void kindsBad() {
        Sentence it = Sentence.of(36, "BAD.");
        Twins.unchanged(it, "kinds by BAD", s -> it.refusesOutside("row of two", -1, 1, s::kinds, BAD));
        SkinShow none = new SkinShow();
        it.refusesOutside("row of none", -1, -1, none::kinds, BAD);
        for (int row = 0; row < 12; row++) {
            none.watch(row);
        }
        it.refusesOutside("row of twelve", -1, 11, none::kinds, BAD);
    }

    private static void parts() {
        Sentence it = Sentence.of(37, "THE ROW that parts most. NONE: there are no rows.");
        SkinShow s = new SkinShow();
        it.is("no rows", s.parts(), NONE);
        s.part(0, 0, 0, 0, 0);
        s.part(0, 1, 0, 0, 0);
        it.is("no rows, two PARTS", s.parts(), NONE);
        for (int row = 0; row < 11; row++) {
            s.watch(0);
            it.is("all alike: the first", s.parts(), 0);
        }
        s.watch(1);
        it.is("the last of twelve", s.parts(), 11);
        SkinShow none = new SkinShow();
        none.watch(1);
        none.watch(2);
        it.is("no PARTS", none.parts(), 0);
        SkinShow most = new SkinShow();
        for (int place = 0; place < 48; place++) {
            most.part(0, place, 0, 0, 0);
        }
        for (int row = 0; row < 10; row++) {
            int set = 0;
            for (int part = 0; part < 29; part++) {
                set |= (part >> row / 2 & 1) << part;
            }
            most.watch(set);
        }
        it.is("29 KINDS, as each row is there twice", most.kinds(9), 29);
        it.is("all alike: the first", most.parts(), 0);
    }
}
