/** The sentences of part 2 of the Terms and of promises 14 to 18 that name a boundary case. */
public final class GroundsSentencesTest {
    private static final int BAD = Due.BAD, NOTHING = Due.NOTHING, KIND = Due.KIND, INDEX = Due.INDEX, SIZE = Due.SIZE;
    private static final int MISSING = -1, BYTES = 0, INTS = 1, EDGE = 2;

    public static void main(String[] args) {
        termsOfLines();
        termsOfPlaces();
        termsOfTheGround();
        termsOfHolding();
        termsOfFindings();
        howLight();
        howRough();
        edges();
        edgesAtTheRim();
        brightOnes();
        brightByEdge();
        line();
        lineMissing();
        lineBad();
        lineSize();
        put();
        putBytes();
        putBad();
        copy();
        copyBad();
        copyNothing();
        copyKind();
        copyIndex();
        copyOfNone();
        ground();
        groundBad();
        ask();
        askBad();
        Sentence.end("GroundsSentencesTest");
    }

    /** A ground 0 of ints, all of one shade. */
    private static SkinShow plain(int shade) {
        SkinShow s = new SkinShow();
        for (int y = 0; y < 6; y++) {
            s.line(y, INTS, 8);
            for (int x = 0; x < 8; x++) {
                s.put(y, x, shade);
            }
        }
        return s;
    }

    private static void shade(SkinShow s, int place, int shade) {
        s.put(place / 8, place % 8, shade);
    }

    /** A ground 0 like a board for chess: one shade where x and y together are even, else another one. */
    private static SkinShow board(int even, int odd) {
        SkinShow s = plain(even);
        for (int place = 0; place < 48; place++) {
            if ((place / 8 + place % 8) % 2 == 1) {
                shade(s, place, odd);
            }
        }
        return s;
    }

    // ---- Terms, part 2

    private static void termsOfLines() {
        Sentence it = Sentence.terms(2, "GROUNDS 0 .. 3 have LINES 0 .. 5;");
        SkinShow s = new SkinShow();
        for (int line = 0; line < 24; line++) {
            s.line(line, BYTES, 1);
            s.put(line, 0, 10 + line);
        }
        for (int line = 0; line < 24; line++) {
            it.is("GROUND " + line / 6 + ", y " + line % 6, s.ground(line / 6, 8 * (line % 6)), 10 + line);
        }
        it.is("24 LINES", s.count(10), 24);
        it.is("LINE 24", s.put(24, 0, 1), BAD);
        it.is("GROUND 4", s.ground(4, 0), BAD);
    }

    private static void termsOfPlaces() {
        Sentence it = Sentence.terms(2, "each LINE is a row of bytes (sort 0) or ints (sort 1), with 0 to 24 places, "
            + "or MISSING (at first).");
        SkinShow s = new SkinShow();
        for (int line = 0; line < 24; line++) {
            it.is("MISSING at first", s.put(line, 0, 0), NOTHING);
        }
        for (int sort = BYTES; sort <= INTS; sort++) {
            it.is("24 places", s.line(0, sort, 24), 24);
            it.is("the last of 24", s.put(0, 23, 5), 0);
            it.is("none behind it", s.put(0, 24, 5), INDEX);
            it.is("0 places", s.line(0, sort, 0), 0);
            it.is("none of 0", s.put(0, 0, 5), INDEX);
            it.is("it is there", s.count(10), 1);
            it.is("25 places", s.line(0, sort, 25), BAD);
        }
        it.is("MISSING again", s.line(0, MISSING, 0), 0);
        it.is("none is there", s.count(10), 0);
    }

    private static void termsOfTheGround() {
        Sentence it = Sentence.terms(2, "50, if the LINE is MISSING or ends ahead of it.");
        SkinShow s = new SkinShow();
        for (int places = 0; places <= 9; places++) {
            s.line(23, INTS, places);
            for (int x = 0; x < 8; x++) {
                it.is("x " + x + " of " + places, s.ground(3, 40 + x), x < places ? 0 : 50);
            }
        }
        s.line(23, MISSING, 0);
        it.is("MISSING", s.ground(3, 40), 50);
        it.is("MISSING from the first on", s.ground(3, 39), 50);
    }

    private static void termsOfHolding() {
        Sentence it = Sentence.terms(2, "The GROUND at a PLACE: the number at place x of LINE y, held within 0 .. 99;");
        SkinShow s = new SkinShow();
        s.line(2, INTS, 8);
        int[] v = {-1, 0, 1, 98, 99, 100, Due.LEAST, Due.MOST};
        int[] held = {0, 0, 1, 98, 99, 99, 0, 99};
        for (int x = 0; x < 8; x++) {
            s.put(2, x, v[x]);
        }
        for (int x = 0; x < 8; x++) {
            it.is("the int " + v[x], s.ground(0, 16 + x), held[x]);
            it.is("the number itself stays", s.put(2, x, v[x]), v[x]);
        }
        int[] bytes = {-1, 0, 1, 99, 100, 127, -128, 98};
        int[] heldBytes = {0, 0, 1, 99, 99, 99, 0, 98};
        s.line(2, BYTES, 8);
        for (int x = 0; x < 8; x++) {
            s.put(2, x, bytes[x]);
            it.is("the byte " + bytes[x], s.ground(0, 16 + x), heldBytes[x]);
        }
        s.line(3, BYTES, 24);
        s.put(3, 8, 7);
        it.is("place 8 of a LINE is no PLACE of the next", s.ground(0, 32), 50);
        it.is("nor of its own", s.ground(0, 24), 0);
    }

    private static void termsOfFindings() {
        Sentence it = Sentence.terms(2, "FINDINGS: NOTHING: a LINE is MISSING; INDEX: there is no such place; "
            + "SIZE: a number of places is below 0; KIND: it is none (of a KIND).");
        SkinShow s = new SkinShow();
        s.line(1, BYTES, 2);
        s.line(2, INTS, 2);
        it.is("a LINE is MISSING", s.put(0, 0, 0), NOTHING);
        it.is("no such place", s.put(1, 2, 0), INDEX);
        it.is("below 0", s.line(0, BYTES, -1), SIZE);
        it.is("none of a KIND", s.copy(1, 0, 2, 0, 1), KIND);
        s.part(1, 0, 0, 0, 0);
        it.is("no MIRROR", s.as(0, 2), KIND);
    }

    private static void howLight() {
        Sentence it = Sentence.terms(2, "QUESTIONS of a GROUND: 0 how light: all 48 PLACES together by 48, cut.");
        SkinShow s = plain(0);
        it.is("0 by 48", s.ask(0, 0), 0);
        shade(s, 0, 47);
        it.is("47 by 48", s.ask(0, 0), 0);
        shade(s, 47, 1);
        it.is("48 by 48", s.ask(0, 0), 1);
        shade(s, 23, 47);
        it.is("95 by 48", s.ask(0, 0), 1);
        shade(s, 24, 1);
        it.is("96 by 48", s.ask(0, 0), 2);
        it.is("the most there can be", plain(Due.MOST).ask(0, 0), 99);
        it.is("the least there can be", plain(Due.LEAST).ask(0, 0), 0);
        it.is("no LINES", new SkinShow().ask(3, 0), 50);
        SkinShow one = plain(99);
        shade(one, 20, -40);
        it.is("held ahead of the sum: 47 times 99 by 48", one.ask(0, 0), 96);
    }

    private static void howRough() {
        Sentence it = Sentence.terms(2, "1 how rough: of all twos of PLACES beside one another (in x, or in y) the size of "
            + "the difference, all together by their number (82), cut.");
        it.is("all alike", plain(99).ask(0, 1), 0);
        it.is("the most there can be", board(0, 99).ask(0, 1), 99);
        it.is("the other way round", board(99, 0).ask(0, 1), 99);
        it.is("each two by 1", board(40, 41).ask(0, 1), 1);
        SkinShow s = plain(0);
        shade(s, 0, 40);
        it.is("80 by 82: two beside a corner", s.ask(0, 1), 0);
        shade(s, 0, 41);
        it.is("82 by 82", s.ask(0, 1), 1);
        SkinShow rim = plain(50);
        shade(rim, 3, 23);
        it.is("81 by 82: three beside one at the rim", rim.ask(0, 1), 0);
        shade(rim, 3, 22);
        it.is("84 by 82", rim.ask(0, 1), 1);
        SkinShow within = plain(50);
        shade(within, 20, 91);
        it.is("164 by 82: four beside one within", within.ask(0, 1), 2);
        shade(within, 20, 90);
        it.is("160 by 82", within.ask(0, 1), 1);
        // 7 and 8 lie at two rims, and aren't beside one another: 3 times 99, and 2 times 99
        SkinShow over = plain(0);
        shade(over, 7, 99);
        shade(over, 8, 99);
        it.is("495 by 82", over.ask(0, 1), 6);
        SkinShow aslant = plain(0);
        shade(aslant, 9, 99);
        shade(aslant, 18, 99);
        it.is("aslant is not beside: 8 times 99 by 82", aslant.ask(0, 1), 9);
    }

    private static void edges() {
        Sentence it = Sentence.terms(2, "2 edges: how many of these twos differ by EDGE (1 .. 99; 20 at first) or more.");
        it.is("none", plain(50).ask(0, 2), 0);
        it.is("all 82", board(0, 99).ask(0, 2), 82);
        it.is("just EDGE at first", board(30, 50).ask(0, 2), 82);
        it.is("just EDGE at first, darker", board(50, 30).ask(0, 2), 82);
        it.is("just below", board(30, 49).ask(0, 2), 0);
        it.is("just below, darker", board(49, 30).ask(0, 2), 0);
        SkinShow least = board(30, 31);
        least.rule(EDGE, 1);
        it.is("the least EDGE", least.ask(0, 2), 82);
        it.is("the least EDGE, all alike", edgesOfAPlainOne(), 0);
        SkinShow most = board(0, 99);
        most.rule(EDGE, 99);
        it.is("the greatest EDGE", most.ask(0, 2), 82);
        shade(most, 0, 1);
        it.is("98 at the two of a corner", most.ask(0, 2), 80);
        it.refusesOutside("EDGE", 1, 99, v -> most.rule(EDGE, v), BAD);
    }

    private static int edgesOfAPlainOne() {
        SkinShow s = plain(30);
        s.rule(EDGE, 1);
        return s.ask(0, 2);
    }

    private static void edgesAtTheRim() {
        Sentence it = Sentence.terms(2, "of all twos of PLACES beside one another (in x, or in y)");
        for (int place = 0; place < 48; place++) {
            SkinShow s = plain(50);
            shade(s, place, 99);
            it.is("a light one at " + place, s.ask(0, 2), beside(place).length);
            shade(s, place, 0);
            it.is("a dark one at " + place, s.ask(0, 2), beside(place).length);
        }
        int[] many = {beside(0).length, beside(7).length, beside(3).length, beside(8).length, beside(9).length};
        int[] due = {2, 2, 3, 3, 4};
        for (int i = 0; i < many.length; i++) {
            it.is("2 at a corner, 3 at a rim, 4 within", many[i], due[i]);
        }
    }

    /** The PLACES beside a PLACE. */
    private static int[] beside(int place) {
        int x = place % 8, y = place / 8, many = 0;
        int[] all = new int[4];
        int[][] steps = {{-1, 0}, {1, 0}, {0, -1}, {0, 1}};
        for (int[] step : steps) {
            int toX = x + step[0], toY = y + step[1];
            if (toX >= 0 && toX <= 7 && toY >= 0 && toY <= 5) {
                all[many++] = 8 * toY + toX;
            }
        }
        return java.util.Arrays.copyOf(all, many);
    }

    private static void brightOnes() {
        Sentence it = Sentence.terms(2, "3 bright ones: how many PLACES are lighter by EDGE or more than each one beside "
            + "them (2 to 4 of these).");
        it.is("none", plain(50).ask(0, 3), 0);
        it.is("every second one", board(99, 0).ask(0, 3), 24);
        it.is("every other one", board(0, 99).ask(0, 3), 24);
        for (int place = 0; place < 48; place++) {
            SkinShow s = plain(50);
            shade(s, place, 70);
            it.is("a bright one at " + place, s.ask(0, 3), 1);
            for (int side : beside(place)) {
                shade(s, side, 51);
                it.is("one beside it, " + side + ", is too light", s.ask(0, 3), 0);
                shade(s, side, 50);
            }
            shade(s, place, 69);
            it.is("not bright enough at " + place, s.ask(0, 3), 0);
            shade(s, place, 0);
            it.is("a dark one at " + place, s.ask(0, 3), 0);
        }
    }

    private static void brightByEdge() {
        Sentence it = Sentence.terms(2, "lighter by EDGE or more");
        SkinShow s = plain(50);
        shade(s, 20, 51);
        it.is("lighter by 1", s.ask(0, 3), 0);
        s.rule(EDGE, 1);
        it.is("the least EDGE", s.ask(0, 3), 1);
        SkinShow most = plain(0);
        shade(most, 20, 99);
        most.rule(EDGE, 99);
        it.is("the greatest EDGE", most.ask(0, 3), 1);
        shade(most, 20, 98);
        it.is("just less", most.ask(0, 3), 0);
        // over the rim and aslant is not beside
        SkinShow rim = plain(50);
        shade(rim, 8, 70);
        shade(rim, 7, 70);
        it.is("at the end of a row, and at the begin of the next", rim.ask(0, 3), 2);
        SkinShow aslant = plain(50);
        shade(aslant, 9, 70);
        shade(aslant, 18, 70);
        it.is("two aslant", aslant.ask(0, 3), 2);
    }

    // ---- Promises 14 to 18

    private static void line() {
        Sentence it = Sentence.of(14, "A LINE of a GROUND (told as 6 times the GROUND, and the LINE: 0 .. 23) becomes a row "
            + "of n places of a sort, all 0");
        SkinShow s = new SkinShow();
        for (int line = 0; line <= 23; line += 23) {
            for (int sort = BYTES; sort <= INTS; sort++) {
                it.is("24 places", s.line(line, sort, 24), 24);
                for (int place = 0; place < 24; place++) {
                    it.is("all 0", s.put(line, place, 1 + place), 0);
                }
                it.is("anew, of 3 places", s.line(line, sort, 3), 3);
                it.is("the last of these", s.put(line, 2, 9), 0);
                it.is("none behind it", s.put(line, 3, 9), INDEX);
                it.is("of 24 again", s.line(line, sort, 24), 24);
                it.is("all 0 again, the first", s.put(line, 0, 9), 0);
                it.is("all 0 again, the third", s.put(line, 2, 9), 0);
                it.is("all 0 again, the last", s.put(line, 23, 9), 0);
                it.is("none", s.line(line, sort, 0), 0);
            }
        }
        it.is("both are there", s.count(10), 2);
    }

    private static void lineMissing() {
        Sentence it = Sentence.of(14, "(sort -1: MISSING, n any; 0): n.");
        int[] any = {0, 1, 24, 25, -1, Due.LEAST, Due.MOST};
        for (int n : any) {
            SkinShow s = new SkinShow();
            it.is("one that is MISSING, n " + n, s.line(0, MISSING, n), 0);
            s.line(0, INTS, 8);
            it.is("n " + n, s.line(0, MISSING, n), 0);
            it.is("MISSING", s.put(0, 0, 0), NOTHING);
            it.is("none is there", s.count(10), 0);
        }
        it.is("of no LINE", new SkinShow().line(24, MISSING, 0), BAD);
    }

    private static void lineBad() {
        Sentence it = Sentence.of(14, "BAD: line, sort, n above 24; SIZE.");
        Twins.unchanged(it, "a LINE by BAD", s -> {
            it.refusesOutside("line", 0, 23, line -> s.line(line, BYTES, 1), BAD);
            it.refusesOutside("sort", -1, 1, sort -> s.line(0, sort, 1), BAD);
            it.is("n 25", s.line(0, BYTES, 25), BAD);
            it.is("n far above", s.line(8, INTS, Due.MOST), BAD);
        });
        SkinShow s = new SkinShow();
        it.takes("n", 0, 24, n -> s.line(0, INTS, n));
        it.takes("sort", -1, 1, sort -> s.line(1, sort, 1));
        it.takes("line", 0, 23, line -> s.line(line, BYTES, 1));
    }

    private static void lineSize() {
        Sentence it = Sentence.of(14, "SIZE.");
        Twins.unchanged(it, "a LINE by SIZE", s -> {
            it.is("n -1", s.line(0, BYTES, -1), SIZE);
            it.is("n far below", s.line(8, INTS, Due.LEAST), SIZE);
            it.is("BAD ahead: line", s.line(24, BYTES, -1), BAD);
            it.is("BAD ahead: sort", s.line(0, 2, -1), BAD);
            it.is("BAD ahead: sort", s.line(0, -2, -1), BAD);
        });
    }

    private static void put() {
        Sentence it = Sentence.of(15, "A place of a LINE becomes v");
        SkinShow s = new SkinShow();
        s.line(0, INTS, 1);
        s.line(23, INTS, 24);
        it.is("the only place of the first LINE", s.put(0, 0, Due.MOST), 0);
        it.is("what it was", s.put(0, 0, Due.LEAST), Due.MOST);
        it.is("what it was", s.put(0, 0, -1), Due.LEAST);
        it.is("the last place of the last LINE", s.put(23, 23, 8), 0);
        it.is("the place ahead", s.put(23, 22, 7), 0);
        it.is("what it was", s.put(23, 23, 0), 8);
        it.is("the first place", s.put(23, 0, 0), 0);
    }

    private static void putBytes() {
        Sentence it = Sentence.of(15, "(of bytes its lowest 8 bits, -128 .. 127): what it was.");
        SkinShow s = new SkinShow();
        s.line(0, BYTES, 24);
        int[] v = {127, 128, -128, -129, 255, 256, 257, -1, -256, 0x7f80, 0x80, Due.MOST, Due.LEAST, 0x12345678, -200};
        int[] as = {127, -128, -128, 127, -1, 0, 1, -1, 0, -128, -128, -1, 0, 0x78, 56};
        for (int i = 0; i < v.length; i++) {
            s.put(0, 23, v[i]);
            it.is(v[i] + " as a byte", s.put(0, 23, 0), as[i]);
        }
        s.line(1, INTS, 1);
        for (int any : v) {
            s.put(1, 0, any);
            it.is(any + " as an int", s.put(1, 0, 0), any);
        }
    }

    private static void putBad() {
        Sentence it = Sentence.of(15, "BAD: line; NOTHING; INDEX.");
        Twins.unchanged(it, "put by BAD, NOTHING, INDEX", s -> {
            it.refusesOutside("line", 0, 23, line -> s.put(line, 0, 1), BAD);
            it.is("MISSING", s.put(23, 0, 1), NOTHING);
            it.is("NOTHING ahead of INDEX", s.put(23, -1, 1), NOTHING);
            it.is("BAD ahead of INDEX", s.put(24, -1, 1), BAD);
            it.refusesOutside("place of 8", 0, 7, place -> s.put(0, place, 1), INDEX);
            it.refusesOutside("place of 24", 0, 23, place -> s.put(8, place, 1), INDEX);
        });
        SkinShow none = new SkinShow();
        none.line(0, BYTES, 0);
        it.is("the first of none", none.put(0, 0, 1), INDEX);
    }

    private static int at(SkinShow s, int line, int place) {
        int v = s.put(line, place, 0);
        s.put(line, place, v);
        return v;
    }

    private static void copy() {
        Sentence it = Sentence.of(16, "So many places of a LINE come to another one (or the same), as they were: many.");
        SkinShow s = new SkinShow();
        Due.line(s, 0, 1, 2, 3, 4, 5);
        Due.line(s, 23, 11, 12, 13);
        it.is("all of them", s.copy(23, 0, 0, 2, 3), 3);
        int[] all = {1, 2, 11, 12, 13};
        for (int i = 0; i < 5; i++) {
            it.is("place " + i, at(s, 0, i), all[i]);
        }
        it.is("those copied stay", at(s, 23, 2), 13);
        it.is("forth in the same", s.copy(0, 0, 0, 1, 4), 4);
        int[] forth = {1, 1, 2, 11, 12};
        for (int i = 0; i < 5; i++) {
            it.is("as they were, forth, " + i, at(s, 0, i), forth[i]);
        }
        it.is("back in the same", s.copy(0, 1, 0, 0, 4), 4);
        int[] back = {1, 2, 11, 12, 12};
        for (int i = 0; i < 5; i++) {
            it.is("as they were, back, " + i, at(s, 0, i), back[i]);
        }
        it.is("all onto themselves", s.copy(0, 0, 0, 0, 5), 5);
        s.line(1, INTS, 24);
        s.line(2, INTS, 24);
        s.put(1, 0, Due.LEAST);
        s.put(1, 23, Due.MOST);
        it.is("24 ints", s.copy(1, 0, 2, 0, 24), 24);
        it.is("the first of them", at(s, 2, 0), Due.LEAST);
        it.is("the last of them", at(s, 2, 23), Due.MOST);
    }

    private static void copyBad() {
        Sentence it = Sentence.of(16, "BAD; NOTHING; KIND: they are not of one sort; INDEX");
        Twins.unchanged(it, "copy by BAD", s -> {
            it.refusesOutside("from", 0, 23, from -> s.copy(from, 0, 0, 0, 1), BAD);
            it.refusesOutside("to", 0, 23, to -> s.copy(0, 0, to, 0, 1), BAD);
            it.is("BAD ahead of NOTHING: to", s.copy(1, 0, 24, 0, 1), BAD);
            it.is("BAD ahead of NOTHING: from", s.copy(-1, 0, 1, 0, 1), BAD);
            it.is("BAD ahead of INDEX", s.copy(0, 0, 24, 0, -1), BAD);
        });
        SkinShow s = new SkinShow();
        for (int line = 0; line < 24; line++) {
            Due.line(s, line, line);
        }
        it.takes("from", 0, 23, from -> s.copy(from, 0, 5, 0, 1));
        it.is("from the last", at(s, 5, 0), 23);
        it.takes("to", 0, 23, to -> s.copy(7, 0, to, 0, 1));
        it.is("to the first", at(s, 0, 0), 7);
        it.is("to the last", at(s, 23, 0), 7);
    }

    private static void copyNothing() {
        Sentence it = Sentence.of(16, "NOTHING; KIND");
        Twins.unchanged(it, "copy by NOTHING", s -> {
            it.is("from a MISSING one", s.copy(1, 0, 0, 0, 1), NOTHING);
            it.is("to a MISSING one", s.copy(0, 0, 1, 0, 1), NOTHING);
            it.is("both", s.copy(1, 0, 1, 0, 0), NOTHING);
            it.is("NOTHING ahead of KIND: to ints", s.copy(1, 0, 8, 0, 1), NOTHING);
            it.is("NOTHING ahead of INDEX", s.copy(0, 0, 1, 0, -1), NOTHING);
            it.is("NOTHING ahead of INDEX", s.copy(1, 9, 0, 0, 1), NOTHING);
        });
    }

    private static void copyKind() {
        Sentence it = Sentence.of(16, "KIND: they are not of one sort;");
        Twins.unchanged(it, "copy by KIND", s -> {
            it.is("bytes to ints", s.copy(0, 0, 8, 0, 1), KIND);
            it.is("ints to bytes", s.copy(8, 0, 0, 0, 1), KIND);
            it.is("0 places", s.copy(8, 0, 0, 0, 0), KIND);
            it.is("KIND ahead of INDEX: many", s.copy(0, 0, 8, 0, -1), KIND);
            it.is("KIND ahead of INDEX: place", s.copy(0, 9, 8, 0, 1), KIND);
            it.is("KIND ahead of INDEX: at", s.copy(0, 0, 8, 25, 1), KIND);
        });
    }

    private static void copyIndex() {
        Sentence it = Sentence.of(16, "INDEX (many below 0, too;");
        Twins.unchanged(it, "copy by INDEX", s -> {
            it.is("many -1", s.copy(0, 0, 0, 0, -1), INDEX);
            it.is("many -1 behind the first", s.copy(0, 3, 0, 3, -1), INDEX);
            it.is("many far below", s.copy(0, 0, 0, 0, Due.LEAST), INDEX);
            it.is("many far below, behind the first", s.copy(0, 8, 0, 8, Due.LEAST), INDEX);
            it.is("many 9 of 8", s.copy(0, 0, 0, 0, 9), INDEX);
            it.is("many far above", s.copy(0, 0, 0, 0, Due.MOST), INDEX);
            it.is("place and many wrap", s.copy(0, 1, 0, 0, Due.MOST), INDEX);
            it.is("at and many wrap", s.copy(0, 0, 0, 1, Due.MOST), INDEX);
            it.is("place -1", s.copy(0, -1, 0, 0, 1), INDEX);
            it.is("at -1", s.copy(0, 0, 0, -1, 1), INDEX);
            it.is("place 8", s.copy(0, 8, 0, 0, 1), INDEX);
            it.is("at 8", s.copy(0, 0, 0, 8, 1), INDEX);
            it.is("beyond the end there, 7 and 2", s.copy(0, 7, 0, 0, 2), INDEX);
            it.is("beyond the end here, 7 and 2", s.copy(0, 0, 0, 7, 2), INDEX);
            it.is("place, the greatest int", s.copy(0, Due.MOST, 0, 0, 1), INDEX);
            it.is("at, the greatest int", s.copy(0, 0, 0, Due.MOST, 1), INDEX);
            it.is("place, the least int", s.copy(0, Due.LEAST, 0, 0, 1), INDEX);
            it.is("at, the least int", s.copy(0, 0, 0, Due.LEAST, 1), INDEX);
        });
        SkinShow s = new SkinShow();
        s.line(0, BYTES, 5);
        s.line(1, BYTES, 3);
        it.is("as many as there are here", s.copy(0, 2, 1, 0, 3), 3);
        it.is("as many as there are there", s.copy(1, 0, 0, 2, 3), 3);
        it.is("one more than there are here", s.copy(0, 3, 1, 0, 3), INDEX);
        it.is("one more than there are there", s.copy(0, 0, 1, 0, 4), INDEX);
    }

    private static void copyOfNone() {
        Sentence it = Sentence.of(16, "0 places may stand at the end). (From a LINE, its place, to a LINE, its place.)");
        Twins.unchanged(it, "copy of 0 places", s -> {
            it.is("at both ends", s.copy(0, 8, 0, 8, 0), 0);
            it.is("at the end here", s.copy(0, 8, 0, 0, 0), 0);
            it.is("at the end there", s.copy(0, 0, 0, 8, 0), 0);
            it.is("at the begin", s.copy(0, 0, 0, 0, 0), 0);
            it.is("behind the end here", s.copy(0, 9, 0, 0, 0), INDEX);
            it.is("behind the end there", s.copy(0, 0, 0, 9, 0), INDEX);
            it.is("ahead of the begin here", s.copy(0, -1, 0, 0, 0), INDEX);
            it.is("ahead of the begin there", s.copy(0, 0, 0, -1, 0), INDEX);
            it.is("the end of 24", s.copy(8, 24, 8, 24, 0), 0);
        });
        SkinShow none = new SkinShow();
        none.line(0, INTS, 0);
        it.is("of a LINE without places", none.copy(0, 0, 0, 0, 0), 0);
        it.is("one of none", none.copy(0, 0, 0, 0, 1), INDEX);
    }

    private static void ground() {
        Sentence it = Sentence.of(17, "The GROUND (0 .. 3) at a PLACE.");
        SkinShow s = new SkinShow();
        Due.line(s, 0, 10, 11, 12, 13, 14, 15, 16, 17);
        Due.line(s, 23, 30, 31, 32, 33, 34, 35, 36, 37);
        for (int x = 0; x < 8; x++) {
            it.is("the first LINE of the first", s.ground(0, x), 10 + x);
            it.is("the last LINE of the last", s.ground(3, 40 + x), 30 + x);
        }
        it.is("another GROUND", s.ground(1, 0), 50);
        it.is("another GROUND", s.ground(2, 47), 50);
    }

    private static void groundBad() {
        Sentence it = Sentence.of(17, "BAD.");
        Twins.unchanged(it, "the GROUND by BAD", s -> {
            it.refusesOutside("ground", 0, 3, ground -> s.ground(ground, 0), BAD);
            it.refusesOutside("place", 0, 47, place -> s.ground(0, place), BAD);
        });
    }

    private static void ask() {
        Sentence it = Sentence.of(18, "A QUESTION (0 .. 3) of a GROUND.");
        SkinShow s = new SkinShow();
        // one bright corner of GROUND 3: 50 times 47 and 99 by 48; 98 by 82; 2 edges
        Due.line(s, 18, 99);
        int[] want = {51, 1, 2, 1};
        int[] plain = {50, 0, 0, 0};
        for (int question = 0; question <= 3; question++) {
            it.is("question " + question + " of GROUND 3", s.ask(3, question), want[question]);
            it.is("question " + question + " of GROUND 0", s.ask(0, question), plain[question]);
        }
        Twins.unchanged(it, "asking", twin -> {
            for (int question = 0; question <= 3; question++) {
                twin.ask(question, question);
            }
        });
    }

    private static void askBad() {
        Sentence it = Sentence.of(18, "BAD.");
        Twins.unchanged(it, "asking by BAD", s -> {
            it.refusesOutside("ground", 0, 3, ground -> s.ask(ground, 0), BAD);
            it.refusesOutside("question", 0, 3, question -> s.ask(0, question), BAD);
        });
    }
}
