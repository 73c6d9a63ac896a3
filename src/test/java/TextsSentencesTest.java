/** The sentences of part 3 of the Terms and of promises 19 to 25 that name a boundary case. */
public final class TextsSentencesTest {
    private static final int BAD = Due.BAD, FULL = Due.FULL, NONE = Due.NONE;
    private static final int EYE = 6, EDGE = 2, TONE = 0;
    private static final String OPERATORS = "|&<=>+-*/";

    public static void main(String[] args) {
        termsOfTexts();
        termsOfForce();
        termsOfTape();
        termsOfHeads();
        termsOfGroups();
        termsOfOrder();
        termsOfTests();
        termsOfPieces();
        termsOfNumbers();
        termsOfNamesOfPull();
        termsOfNamesOfTheEye();
        nameD();
        nameM();
        nameC();
        termsOfWords();
        termsOfBlanks();
        termsOfWordsBehindWords();
        faultFirst();
        faultBlank();
        faultGroup();
        faultNumber();
        faultParentheses();
        faultNots();
        faultEach();
        faultEnd();
        termsOfInts();
        termsOfDivision();
        termsOfTruth();
        termsOfCounting();
        termsOfHabit();
        termsOfHolding();
        termsOfSeen();
        termsOfSeenWithoutText();
        feed();
        feedOrder();
        feedFull();
        trim();
        trimBad();
        text();
        textBad();
        textFault();
        textFull();
        of();
        ofBad();
        why();
        whyBad();
        whyNone();
        gives();
        givesBad();
        givesNone();
        habit();
        habitBad();
        Sentence.end("TextsSentencesTest");
    }

    /** Where a text is at fault: the place behind the dot in what is due; a good text has none. */
    private static void fault(Sentence it, String text, int place) {
        it.is("the text \"" + text + "\"", Due.text(new SkinShow(), 0, text), -100 - place);
    }

    private static void good(Sentence it, String text) {
        it.is("the text \"" + text + "\"", Due.text(new SkinShow(), 0, text), 0);
    }

    private static int worth(String e, int... names) {
        SkinShow s = new SkinShow();
        int text = Due.text(s, 0, "eye " + e);
        return text == 0 ? s.gives(EYE, names[0], names[1], names[2], names[3]) : text;
    }

    // ---- Terms, part 3: texts and the tape

    private static void termsOfTexts() {
        Sentence it = Sentence.terms(3, "TEXTS, 14 at most, numbered from 0,");
        SkinShow s = new SkinShow();
        for (int text = 0; text < 14; text++) {
            it.is("the number of a TEXT", Due.text(s, 0, "pull " + text % 6 + " " + text), text);
        }
        it.is("the fifteenth", Due.text(s, 0, "eye 1"), FULL);
        it.is("fourteen", s.count(7), 14);
        it.is("the first is there", s.of(0, 0), 0);
        it.is("the last is there", s.of(13, 0), 1);
        it.is("none behind it", s.of(14, 0), BAD);
        it.is("what the last gives", s.gives(1, 0, 0, 0, 0), 13);
    }

    private static void termsOfForce() {
        Sentence it = Sentence.terms(3, "each in force from a TICK on,");
        SkinShow s = new SkinShow();
        Due.text(s, 3, "pull 1 7");
        Due.text(s, 0, "pull 2 7");
        int[] why = {NONE, NONE, NONE, 0, 0, 0};
        for (int tick = 0; tick < 6; tick++) {
            it.is("from 3 on, in TICK " + tick, s.why(1), why[tick]);
            it.is("from 0 on, in TICK " + tick, s.why(2), 1);
            s.tick(1);
        }
        SkinShow late = new SkinShow();
        Due.text(late, 9999, "eye 1");
        for (int i = 0; i < 166; i++) {
            late.tick(60);
        }
        late.tick(38);
        it.is("from 9999 on, in TICK 9998", late.why(EYE), NONE);
        late.tick(1);
        it.is("in TICK 9999", late.why(EYE), 0);
    }

    private static void termsOfTape() {
        Sentence it = Sentence.terms(3, "from THE TAPE (96 bytes at most; an act that reads it uses it up, whatever it "
            + "answers):");
        SkinShow s = new SkinShow();
        for (int i = 1; i <= 8; i++) {
            it.is("twelve more", s.feed(0x65796520, 0x31202020, 0x20202020), 12 * i);
        }
        it.is("the ninth", s.feed(0x20202020, 0x20202020, 0x20202020), FULL);
        it.is("read: a FAULT", s.text(0), -112);
        it.is("used up by a FAULT", s.count(12), 0);
        it.is("an empty one", s.text(0), -100);
        it.is("a good one", Due.text(s, 0, "eye 1"), 0);
        it.is("used up by a TEXT", s.count(12), 0);
        it.is("BAD", Due.text(s, -1, "eye 1"), BAD);
        it.is("used up by BAD", s.count(12), 0);
        for (int i = 1; i < 14; i++) {
            Due.text(s, 0, "eye 1");
        }
        it.is("FULL", Due.text(s, 0, "eye 1"), FULL);
        it.is("used up by FULL", s.count(12), 0);
        StringBuilder full = new StringBuilder("eye d");
        while (full.length() < 96) {
            full.append(' ');
        }
        good(it, full.toString());
        full.setCharAt(94, '+');
        full.setCharAt(95, '7');
        good(it, full.toString());
    }

    // ---- the grammar

    private static void termsOfHeads() {
        Sentence it = Sentence.terms(3, "pull GROUP E (GROUP: one digit 0 .. 5) | eye E.");
        good(it, "eye 1");
        good(it, "pull 0 1");
        String[] none = {"aye 1", "null 0 1", "eya 1", "pula 0 1", "exe 1", "pall 0 1", "", "1", "d", "(1)", "!1", "pul 0 1", "pulls 0 1", "ey 1", "eyes 1", "Eye 1", "PULL 0 1", "eYe 1",
            "e ye 1", "pu ll 0 1", "look 1", "p", "e", "push 0 1", "ull 0 1"};
        for (String text : none) {
            fault(it, text, 0);
        }
        fault(it, "eye 0 1", 6);
        fault(it, "pull 1", 6);
        fault(it, "pull (1)", 5);
        fault(it, "eye eye 1", 4);
        fault(it, "eye 1 eye 1", 6);
        fault(it, "pull 1 1 pull 1 1", 9);
        fault(it, "eye", 3);
        fault(it, "pull", 4);
    }

    private static void termsOfGroups() {
        Sentence it = Sentence.terms(3, "(GROUP: one digit 0 .. 5)");
        for (int b = 0; b < 256; b++) {
            String text = "pull " + (char) b + " l";
            if (b >= '0' && b <= '5') {
                good(it, text);
            } else {
                // a blank there: then l stands where the GROUP should
                fault(it, text, b == ' ' ? 7 : 5);
            }
        }
        for (int group = 0; group <= 5; group++) {
            SkinShow s = new SkinShow();
            Due.text(s, 0, "pull " + group + " 7");
            for (int asked = 0; asked <= 6; asked++) {
                it.is("for GROUP " + asked + " by GROUP " + group, s.why(asked), asked == group ? 0 : NONE);
            }
        }
        String[] more = {"00", "01", "10", "55", "05", "12", "012"};
        for (String group : more) {
            fault(it, "pull " + group + " l", 5);
        }
    }

    private static int level(char sign) {
        return "|".indexOf(sign) >= 0 ? 1 : "&".indexOf(sign) >= 0 ? 2 : "<=>".indexOf(sign) >= 0 ? 3
            : "+-".indexOf(sign) >= 0 ? 4 : 5;
    }

    private static int joined(char sign, int a, int b) {
        switch (sign) {
            case '|': return a != 0 || b != 0 ? 1 : 0;
            case '&': return a != 0 && b != 0 ? 1 : 0;
            case '<': return a < b ? 1 : 0;
            case '=': return a == b ? 1 : 0;
            case '>': return a > b ? 1 : 0;
            case '+': return a + b;
            case '-': return a - b;
            case '*': return a * b;
            default: return b == 0 ? 0 : a / b;
        }
    }

    private static final int[][] TRIPLES = {{0, 0, 0}, {1, 0, 0}, {0, 1, 0}, {0, 0, 1}, {1, 1, 1}, {9, 4, 3}, {3, 9, 4},
        {-7, 2, 3}, {20, -3, 2}, {5, 5, 0}, {2, 3, 1}, {1, 2, 6}, {Due.MOST, 2, -1}, {Due.LEAST, -1, 3}, {6, 3, 2}};

    private static void termsOfOrder() {
        Sentence it = Sentence.terms(3, "E, the loosest first: OR: AND { | AND }; AND: TEST { & TEST }; TEST: SUM "
            + "[ (< | = | >) SUM ]; SUM: TERM { (+ | -) TERM }; TERM: PIECE { (* | /) PIECE };");
        for (char one : OPERATORS.toCharArray()) {
            for (char other : OPERATORS.toCharArray()) {
                if (level(one) == 3 && level(other) == 3) {
                    continue;
                }
                SkinShow s = new SkinShow();
                String text = "eye d" + one + "g" + other + "m";
                it.is("the text " + text, Due.text(s, 0, text), 0);
                for (int[] t : TRIPLES) {
                    int firstOne = joined(other, joined(one, t[0], t[1]), t[2]);
                    int firstOther = joined(one, t[0], joined(other, t[1], t[2]));
                    it.is(text + " of " + t[0] + ", " + t[1] + ", " + t[2], s.gives(EYE, t[0], t[1], t[2], 0),
                        level(one) >= level(other) ? firstOne : firstOther);
                }
            }
        }
        it.is("five in a row, from the left", worth("100-d-g-m-c", 1, 2, 3, 4), 90);
        it.is("five in a row, from the left", worth("1000/d/g/m*c", 2, 3, 5, 7), 231);
        it.is("all levels", worth("d|g&m<c+2*3", 0, 1, 9, 4), 1);
        it.is("all levels", worth("d|g&m<c+2*3", 0, 1, 10, 4), 0);
        it.is("a | that is not there gives the AND itself", worth("d", -5, 0, 0, 0), -5);
    }

    private static void termsOfTests() {
        Sentence it = Sentence.terms(3, "TEST: SUM [ (< | = | >) SUM ];");
        String signs = "<=>";
        for (char one : signs.toCharArray()) {
            good(it, "eye d" + one + "g");
            for (char other : signs.toCharArray()) {
                fault(it, "eye d" + one + other + "g", 6);
                fault(it, "eye d" + one + "g" + other + "m", 7);
                fault(it, "eye d" + one + "g+m" + other + "c", 9);
                fault(it, "eye d" + one + "g*!m" + other + "c", 10);
                fault(it, "eye d" + one + "(g)" + other + "c", 9);
                fault(it, "eye (d" + one + "g" + other + "m)", 8);
                good(it, "eye d" + one + "g&m" + other + "c");
                good(it, "eye d" + one + "g|m" + other + "c");
                good(it, "eye (d" + one + "g)" + other + "m");
                good(it, "eye d" + one + "(g" + other + "m)");
                good(it, "eye !(d" + one + "g)" + other + "m");
            }
        }
    }

    private static void termsOfPieces() {
        Sentence it = Sentence.terms(3, "PIECE: NUMBER (1 to 4 digits) | NAME | ! PIECE | ( E ).");
        for (int b = 0; b < 256; b++) {
            String text = "eye " + (char) b;
            if (b >= '0' && b <= '9' || "dgmc".indexOf(b) >= 0) {
                good(it, text);
            } else {
                fault(it, text, b == '(' || b == '!' || b == ' ' ? 5 : 4);
            }
        }
        for (int b = 0; b < 256; b++) {
            String text = "eye d" + (char) b;
            if (b == ' ') {
                good(it, text);
            } else if (OPERATORS.indexOf(b) >= 0) {
                fault(it, text, 6);
            } else {
                fault(it, text, b >= 'a' && b <= 'z' ? 4 : 5);
            }
        }
        it.is("! of a PIECE, not of a TERM", worth("!d*g", 0, 5, 0, 0), 5);
        it.is("! of a PIECE in a row", worth("d*!g", 5, 0, 0, 0), 5);
        it.is("!!!", worth("!!!d", 5, 0, 0, 0), 0);
        it.is("( ) with all in it", worth("2*(d|g)", 0, 7, 0, 0), 2);
        for (char one : OPERATORS.toCharArray()) {
            for (char other : OPERATORS.toCharArray()) {
                SkinShow left = new SkinShow();
                SkinShow right = new SkinShow();
                Due.text(left, 0, "eye (d" + one + "g)" + other + "m");
                Due.text(right, 0, "eye d" + one + "(g" + other + "m)");
                for (int[] t : TRIPLES) {
                    it.is("(d" + one + "g)" + other + "m", left.gives(EYE, t[0], t[1], t[2], 0),
                        joined(other, joined(one, t[0], t[1]), t[2]));
                    it.is("d" + one + "(g" + other + "m)", right.gives(EYE, t[0], t[1], t[2], 0),
                        joined(one, t[0], joined(other, t[1], t[2])));
                }
            }
        }
        it.is("( ) in ( )", worth("((d)-(g-(m)))", 9, 7, 2, 0), 4);
        fault(it, "eye ()", 5);
        fault(it, "eye (d", 6);
        fault(it, "eye d)", 5);
        fault(it, "eye (d))", 7);
        fault(it, "eye !)", 5);
        fault(it, "eye -d", 4);
        fault(it, "eye d!", 5);
        fault(it, "eye d(g)", 5);
        fault(it, "eye (d)!g", 7);
    }

    private static void termsOfNumbers() {
        Sentence it = Sentence.terms(3, "NUMBER (1 to 4 digits)");
        String[] numbers = {"0", "9", "10", "99", "007", "999", "1000", "9999", "0000", "0001"};
        int[] value = {0, 9, 10, 99, 7, 999, 1000, 9999, 0, 1};
        for (int i = 0; i < numbers.length; i++) {
            it.is("the NUMBER " + numbers[i], worth(numbers[i], 5, 5, 5, 5), value[i]);
        }
        fault(it, "eye 10000", 4);
        fault(it, "eye 00000", 4);
        fault(it, "eye 1+00001", 6);
        fault(it, "pull 1 12345", 7);
        fault(it, "eye 123456789012345678901234567890", 4);
    }

    private static void termsOfNamesOfPull() {
        Sentence it = Sentence.terms(3, "NAMES, each one letter: of pull l, r, e, b: the QUESTIONS 0 .. 3;");
        for (char c = 'a'; c <= 'z'; c++) {
            String text = "pull 0 " + c;
            if ("lreb".indexOf(c) >= 0) {
                good(it, text);
            } else {
                fault(it, text, 7);
            }
            fault(it, text + c, 7);
        }
        for (int name = 0; name < 4; name++) {
            SkinShow s = new SkinShow();
            Due.text(s, 0, "pull 0 " + "lreb".charAt(name));
            // a bright corner: light 50, rough 1, 2 edges, 1 bright one
            Due.line(s, 6, 94);
            int[] want = {50, 1, 2, 1};
            it.is("QUESTION " + name, s.ask(1, name), want[name]);
            s.habit(1);
            it.is("the NAME of QUESTION " + name, s.pull(0, 0), Math.min(9, want[name]));
        }
    }

    private static void termsOfNamesOfTheEye() {
        Sentence it = Sentence.terms(3, "of eye d the size of the difference of LIGHT and GROUND, g GROUND,");
        for (char c = 'a'; c <= 'z'; c++) {
            String text = "eye " + c;
            if ("dgmc".indexOf(c) >= 0) {
                good(it, text);
            } else {
                fault(it, text, 4);
            }
            fault(it, text + c, 4);
        }
        int[] ground = {0, 1, 49, 50, 51, 99, -7, 120};
        int[] held = {0, 1, 49, 50, 51, 99, 0, 99};
        for (int x = 0; x < 8; x++) {
            SkinShow s = new SkinShow();
            Due.line(s, 0, ground);
            Due.text(s, 0, "eye g=" + held[x]);
            it.is("g where the GROUND is " + ground[x], s.seen(0, x), 1);
            Due.text(s, 0, "eye d=" + Math.abs(50 - held[x]));
            it.is("d where the GROUND is " + ground[x], s.seen(0, x), 1);
        }
    }

    private static void nameD() {
        Sentence it = Sentence.terms(3, "d the size of the difference of LIGHT and GROUND");
        SkinShow s = new SkinShow();
        Due.text(s, 0, "eye d=99");
        s.line(0, 0, 8);
        s.rule(TONE, 99);
        it.is("99 on 0", s.seen(0, 0), 1);
        it.is("99 on 50", s.seen(0, 8), 0);
        s.rule(TONE, 0);
        it.is("0 on 0", s.seen(0, 0), 0);
        s.put(0, 0, 99);
        it.is("0 on 99", s.seen(0, 0), 1);
        Due.text(s, 0, "eye d<0");
        it.is("never below 0", s.beast(0, 0), 0);
        Due.text(s, 0, "eye !d");
        s.rule(TONE, 50);
        it.is("just alike: all but the first row", s.beast(0, 0), 40);
    }

    private static void nameM() {
        Sentence it = Sentence.terms(3, "m the size of the difference of LIGHT and WAS,");
        SkinShow s = new SkinShow();
        s.part(3, 0, 0, 9, 0);
        s.part(1, 47, 9, 9, 0);
        s.pull(0, 9);
        Due.text(s, 0, "eye m=18");
        it.is("at first", s.beast(0, 0), 0);
        s.tick(1);
        it.is("lighter by 18", s.seen(0, 0), 1);
        it.is("darker by 18", s.seen(0, 47), 1);
        it.is("none beside", s.beast(0, 0), 2);
        s.tick(1);
        it.is("the first stands, the last goes on", s.beast(0, 2), 47);
        s.rest();
        it.is("WAS as LIGHT", s.beast(0, 0), 0);
        s.rule(TONE, 32);
        it.is("by the TONE: all that are not held", s.beast(0, 0), 47);
    }

    private static void nameC() {
        Sentence it = Sentence.terms(3, "c how many PLACES beside are lighter or darker than it (by LIGHT) by EDGE or more.");
        // LIGHT 68 by a WHITE there, 50 elsewhere
        for (int place = 0; place < 48; place++) {
            int x = place % 8, y = place / 8;
            int beside = (x > 0 ? 1 : 0) + (x < 7 ? 1 : 0) + (y > 0 ? 1 : 0) + (y < 5 ? 1 : 0);
            SkinShow s = new SkinShow();
            s.part(3, place, 0, 9, 0);
            s.rest();
            s.rule(EDGE, 18);
            Due.text(s, 0, "eye c=" + beside);
            it.is("round a light one at " + place, s.seen(0, place), 1);
            Due.text(s, 0, "eye c=1");
            it.is("those beside it have one", s.beast(0, 0), beside);
            it.is("the least of them", s.beast(0, 2), y > 0 ? place - 8 : x > 0 ? place - 1 : place + 1);
            s.rule(EDGE, 19);
            it.is("just below EDGE", s.beast(0, 0), 0);
            s.rule(EDGE, 1);
            it.is("the least EDGE", s.beast(0, 0), beside);
        }
        SkinShow dark = new SkinShow();
        dark.part(1, 20, 2, 9, 0);
        dark.pull(0, 9);
        dark.rest();
        dark.rule(EDGE, 18);
        Due.text(dark, 0, "eye c=4");
        it.is("round a dark one", dark.seen(0, 20), 1);
        SkinShow ground = new SkinShow();
        Due.line(ground, 0, 0, 99, 0, 99, 0, 99, 0, 99);
        Due.text(ground, 0, "eye c");
        it.is("by LIGHT, not by the GROUND", ground.beast(0, 0), 0);
        SkinShow most = new SkinShow();
        most.part(1, 20, 9, 9, 0);
        most.pull(0, 9);
        most.rule(TONE, 99);
        most.rest();
        most.rule(EDGE, 81);
        Due.text(most, 0, "eye c");
        it.is("81 of 99", most.beast(0, 0), 5);
        most.rule(EDGE, 82);
        it.is("82 of 99", most.beast(0, 0), 0);
    }

    // ---- words and blanks

    private static boolean letter(int b) {
        return b >= 'a' && b <= 'z';
    }

    private static boolean digit(int b) {
        return b >= '0' && b <= '9';
    }

    private static void termsOfWords() {
        Sentence it = Sentence.terms(3, "A word is a row of letters a .. z, or of digits, as long as it goes; any other byte "
            + "is a sign by itself.");
        for (int b = 0; b < 256; b++) {
            // behind a NUMBER and ahead of one: a digit makes it longer
            String text = "eye 1" + (char) b + "2";
            if (digit(b) || OPERATORS.indexOf(b) >= 0) {
                good(it, text);
            } else {
                fault(it, text, b == ' ' ? 6 : 5);
            }
            // ahead of a word: a letter makes it longer, any other byte stands by itself
            String ahead = (char) b + "eye 1";
            if (b == ' ') {
                good(it, ahead);
            } else {
                fault(it, ahead, 0);
            }
        }
        fault(it, "eyed 1", 0);
        fault(it, "eyezz", 0);
        fault(it, "pulla 1 1", 0);
        fault(it, "eye dg", 4);
        good(it, "eye d+g");
    }

    private static void termsOfBlanks() {
        Sentence it = Sentence.terms(3, "Between words and signs, and at the ends, there may be blanks (byte 32);");
        good(it, " eye 1");
        good(it, "     eye     1     ");
        good(it, "eye(1)");
        good(it, "eye ( 1 ) ");
        good(it, "pull 3(1)");
        good(it, "pull   3   ( 1 + ! l * ( r ) ) < 2 & 3 | 4 ");
        good(it, "pull 3!l");
        good(it, "eye 1+2");
        good(it, "eye 1 +2");
        good(it, "eye 1+ 2");
        for (int b = 0; b < 256; b++) {
            if (letter(b) || digit(b) || b == '!' || b == '(') {
                continue;
            }
            String text = "eye" + (char) b + "d";
            if (b == ' ') {
                good(it, text);
            } else {
                fault(it, text, 3);
            }
        }
        fault(it, "e ye 1", 0);
        fault(it, "eye 1 2", 6);
        fault(it, "pull 1 2 3", 9);
        it.is("a blank does not join digits", Due.text(new SkinShow(), 0, "eye 1 0"), -106);
    }

    private static void termsOfWordsBehindWords() {
        Sentence it = Sentence.terms(3, "a word right behind another one needs one.");
        for (int b = 0; b < 256; b++) {
            String text = "pull" + (char) b + "2 l";
            if (b == ' ') {
                good(it, text);
            } else {
                fault(it, text, letter(b) ? 0 : 4);
            }
        }
        for (char digit = '0'; digit <= '9'; digit++) {
            fault(it, "eye" + digit, 3);
            fault(it, "eye " + digit + "d", 5);
            fault(it, "eye d" + digit, 5);
            fault(it, "eye d+" + digit + "d", 7);
            good(it, "eye " + digit + "+d");
            good(it, "eye(" + digit + ")");
        }
        for (char group = '0'; group <= '5'; group++) {
            fault(it, "pull " + group + "l", 6);
            good(it, "pull " + group + " l");
            good(it, "pull " + group + "(l)");
            fault(it, "pull" + group + " l", 4);
        }
    }

    // ---- faults

    private static void faultFirst() {
        Sentence it = Sentence.terms(3, "FAULT: the first byte of the first word or sign with which no TEXT goes on");
        fault(it, "eye ddd", 4);
        fault(it, "eye d+ddd+", 6);
        fault(it, "eye 1+*2)", 6);
        fault(it, "eye  ?", 5);
        fault(it, "eye ? ?", 4);
        fault(it, "  x  eye", 2);
        fault(it, "pull 7 x", 5);
        fault(it, "pull 1 d", 7);
        fault(it, "eye l", 4);
        fault(it, "eye (1+2", 8);
        fault(it, "eye (1+2 3", 9);
        fault(it, "eye 1)+(", 5);
        fault(it, "eye \u0000", 4);
        fault(it, "eye \u00ff", 4);
        fault(it, "\u0080eye 1", 0);
    }

    private static void faultBlank() {
        Sentence it = Sentence.terms(3, "(a word that needs a blank ahead of it,");
        fault(it, "eye1", 3);
        fault(it, "pull1 l", 4);
        fault(it, "pull 1l", 6);
        fault(it, "eye 1d", 5);
        fault(it, "eye d1", 5);
        fault(it, "eye(1d", 5);
    }

    private static void faultGroup() {
        Sentence it = Sentence.terms(3, "a GROUP of more than one digit or above 5,");
        fault(it, "pull 00 l", 5);
        fault(it, "pull 11 l", 5);
        fault(it, "pull 55", 5);
        fault(it, "pull 6 l", 5);
        fault(it, "pull 9", 5);
        fault(it, "pull   66", 7);
        good(it, "pull 5 l");
        good(it, "pull 0 l");
    }

    private static void faultNumber() {
        Sentence it = Sentence.terms(3, "a NUMBER of more than 4 digits,");
        fault(it, "eye 11111", 4);
        fault(it, "eye 1111+ 00000", 10);
        good(it, "eye 1111");
        good(it, "eye 1111+0000");
    }

    private static String times(int many, String sign) {
        return sign.repeat(many);
    }

    private static void faultParentheses() {
        Sentence it = Sentence.terms(3, "the ninth ( that would be open within others,");
        for (int many = 1; many <= 8; many++) {
            good(it, "eye " + times(many, "(") + "d" + times(many, ")"));
        }
        fault(it, "eye " + times(9, "(") + "d" + times(9, ")"), 12);
        fault(it, "eye " + times(30, "("), 12);
        fault(it, "eye " + times(8, "("), 12);
        // those that are closed do not count
        good(it, "eye " + times(12, "(d)+") + "d");
        good(it, "eye " + times(8, "(") + "d" + times(8, ")") + "+" + times(8, "(") + "d" + times(8, ")"));
        good(it, "eye " + times(7, "(") + "(d)+(d)+(d)" + times(7, ")"));
        fault(it, "eye " + times(7, "(") + "(d)+((d))" + times(7, ")"), 16);
        fault(it, "eye " + times(8, "( "), 20);
        fault(it, "eye " + times(8, "( ") + "(", 20);
        fault(it, "eye " + times(4, "(1+(2*") + "(", 28);
    }

    private static void faultNots() {
        Sentence it = Sentence.terms(3, "the ninth ! likewise (open till its PIECE ends),");
        for (int many = 1; many <= 8; many++) {
            good(it, "eye " + times(many, "!") + "d");
        }
        fault(it, "eye " + times(9, "!") + "d", 12);
        fault(it, "eye " + times(30, "!"), 12);
        fault(it, "eye " + times(8, "!"), 12);
        good(it, "eye " + times(20, "!d+") + "d");
        good(it, "eye " + times(8, "!") + "d+" + times(8, "!") + "d");
        // a PIECE in ( ) ends with its )
        good(it, "eye " + times(7, "!") + "(!d+!d+!d)");
        fault(it, "eye " + times(7, "!") + "(!d+!!d)", 16);
        fault(it, "eye " + times(8, "!") + "(!d)", 13);
        good(it, "eye " + times(8, "!") + "(d)+!d");
        good(it, "eye " + times(7, "!") + "(d)+" + times(8, "!") + "d");
        good(it, "eye (" + times(8, "!") + "d)+" + times(8, "!") + "d");
    }

    private static void faultEach() {
        Sentence it = Sentence.terms(3, "each by itself);");
        good(it, "eye " + times(8, "!(") + "d" + times(8, ")"));
        good(it, "eye " + times(8, "!") + times(8, "(") + "d" + times(8, ")"));
        good(it, "eye " + times(8, "(") + times(8, "!") + "d" + times(8, ")"));
        fault(it, "eye " + times(8, "!(") + "!d" + times(8, ")"), 20);
        fault(it, "eye " + times(8, "!(") + "(d" + times(8, ")"), 20);
        fault(it, "eye " + times(8, "!") + times(9, "("), 20);
        fault(it, "eye " + times(8, "(") + times(9, "!"), 20);
    }

    private static void faultEnd() {
        Sentence it = Sentence.terms(3, "the end (the place behind the last byte, blanks too), if it comes too soon.");
        String whole = "pull 5 !(l+12)*r&3<b|e";
        // the beginnings of the whole: cut by its first n bytes
        int[] faults = {0, 0, 0, 0, 4, 5, 6, 7, 8, 9, 10, 11, 12, 13, -1, 15, -1, 17, -1, 19, -1, 21, -1};
        for (int n = 0; n <= whole.length(); n++) {
            String text = whole.substring(0, n);
            if (faults[n] < 0) {
                good(it, text);
                good(it, text + "   ");
            } else {
                fault(it, text, faults[n]);
                fault(it, text + "   ", faults[n] == n ? n + 3 : faults[n]);
            }
        }
        fault(it, " ", 1);
        fault(it, times(96, " "), 96);
        fault(it, "eye" + times(93, " "), 96);
        fault(it, "pull" + times(92, " "), 96);
        fault(it, "pull 3" + times(90, " "), 96);
        fault(it, times(92, " ") + "pull", 96);
        fault(it, times(92, " ") + "eye(", 96);
        fault(it, times(93, " ") + "ey3", 93);
        fault(it, "eye 1" + times(91, "+"), 6);
        fault(it, "eye 1" + times(45, "+1") + "+", 96);
        good(it, "eye 11" + times(45, "+1"));
        good(it, "eye 1" + times(44, "+1") + " +d");
        good(it, "eye  d" + times(45, "+d"));
    }

    // ---- what texts give

    private static void termsOfInts() {
        Sentence it = Sentence.terms(3, "Ints wrap;");
        it.is("the greatest and 1", worth("d+1", Due.MOST, 0, 0, 0), Due.LEAST);
        it.is("the least less 1", worth("d-1", Due.LEAST, 0, 0, 0), Due.MOST);
        it.is("0 less the least", worth("0-d", Due.LEAST, 0, 0, 0), Due.LEAST);
        it.is("the greatest times 2", worth("d*2", Due.MOST, 0, 0, 0), -2);
        it.is("the least times 0-1", worth("d*g", Due.LEAST, -1, 0, 0), Due.LEAST);
        it.is("46341 times 46341", worth("d*d", 46341, 0, 0, 0), -2147479015);
        it.is("65536 times 65536", worth("d*d", 65536, 0, 0, 0), 0);
        it.is("the least by 0-1", worth("d/g", Due.LEAST, -1, 0, 0), Due.LEAST);
        it.is("numbers of a text", worth("9999*9999*22", 0, 0, 0, 0), -2095407274);
        it.is("it is held nowhere on the way", worth("(d+1)-1", Due.MOST, 0, 0, 0), Due.MOST);
        it.is("the least is below the greatest", worth("d<g", Due.LEAST, Due.MOST, 0, 0), 1);
        it.is("the greatest is above the least", worth("d>g", Due.MOST, Due.LEAST, 0, 0), 1);
        it.is("the greatest is not below the least", worth("d<g", Due.MOST, Due.LEAST, 0, 0), 0);
    }

    private static void termsOfDivision() {
        Sentence it = Sentence.terms(3, "/ is 0 by 0;");
        int[] any = {0, 1, -1, 7, Due.LEAST, Due.MOST};
        for (int v : any) {
            it.is(v + " by 0", worth("d/g", v, 0, 0, 0), 0);
            it.is(v + " by a 0 of a text", worth("d/0", v, 0, 0, 0), 0);
            it.is("0 by " + v, worth("0/d", v, 0, 0, 0), 0);
        }
        it.is("what is 0 by 0 goes on", worth("d/0+7", 5, 0, 0, 0), 7);
    }

    private static void termsOfTruth() {
        Sentence it = Sentence.terms(3, "tests, & | ! give 1 or 0 (what is not 0 is true; both sides are worked out).");
        int[] any = {0, 1, -1, 2, Due.LEAST, Due.MOST};
        for (int a : any) {
            it.is("!" + a, worth("!d", a, 0, 0, 0), a == 0 ? 1 : 0);
            for (int b : any) {
                it.is(a + " & " + b, worth("d&g", a, b, 0, 0), a != 0 && b != 0 ? 1 : 0);
                it.is(a + " | " + b, worth("d|g", a, b, 0, 0), a != 0 || b != 0 ? 1 : 0);
                it.is(a + " < " + b, worth("d<g", a, b, 0, 0), a < b ? 1 : 0);
                it.is(a + " = " + b, worth("d=g", a, b, 0, 0), a == b ? 1 : 0);
                it.is(a + " > " + b, worth("d>g", a, b, 0, 0), a > b ? 1 : 0);
            }
        }
        it.is("2 & 1, not by bits", worth("2&1", 0, 0, 0, 0), 1);
        it.is("both sides are worked out: / by 0 does no harm", worth("0&1/0|1", 0, 0, 0, 0), 1);
    }

    private static void termsOfCounting() {
        Sentence it = Sentence.terms(3, "Of a GROUP (of the eye) that TEXT counts in a TICK which is in force, with the "
            + "latest TICK, of several the greatest number.");
        SkinShow s = new SkinShow();
        int[] from = {2, 0, 1, 2, 0, 3};
        for (int text = 0; text < 6; text++) {
            Due.text(s, from[text], "eye " + text);
            Due.text(s, 0, "pull 3 " + text);
        }
        // the eye's are 0, 2, 4, 6, 8, 10: from 2, 0, 1, 2, 0, 3 on
        int[] counts = {8, 4, 6, 10, 10};
        for (int tick = 0; tick < 5; tick++) {
            it.is("of the eye in TICK " + tick, s.why(EYE), counts[tick]);
            it.is("of GROUP 3 in TICK " + tick, s.why(3), 11);
            it.is("of GROUP 2 in TICK " + tick, s.why(2), NONE);
            s.tick(1);
        }
        Due.text(s, 3, "eye 7");
        it.is("one more of the same TICK", s.why(EYE), 12);
        Due.text(s, 2, "eye 7");
        it.is("one more of an earlier TICK", s.why(EYE), 12);
    }

    private static void termsOfHabit() {
        Sentence it = Sentence.terms(3, "THE HABIT for a GROUND: the PULL of each GROUP that has a TEXT that counts becomes "
            + "what its E gives, held within 0 .. 9; others stay.");
        SkinShow s = new SkinShow();
        for (int group = 0; group <= 5; group++) {
            s.pull(group, 4);
        }
        Due.text(s, 0, "pull 0 3");
        Due.text(s, 0, "pull 5 l");
        Due.text(s, 1, "pull 1 8");
        Due.text(s, 0, "eye 6");
        s.habit(0);
        int[] want = {3, 4, 4, 4, 4, 9};
        for (int group = 0; group <= 5; group++) {
            it.is("PULL of " + group, s.pull(group, 4), want[group]);
        }
        Due.shade(s, 3, 2);
        s.habit(3);
        it.is("on another GROUND", s.pull(5, 0), 2);
    }

    private static void termsOfHolding() {
        Sentence it = Sentence.terms(3, "held within 0 .. 9; others stay.");
        String[] e = {"0-1", "0", "1", "8", "9", "10", "0-9999", "9999", "9999*9999*21", "9999*9999*22", "2147*9999*101"};
        int[] pull = {0, 0, 1, 8, 9, 9, 0, 9, 9, 0, 0};
        for (int i = 0; i < e.length; i++) {
            SkinShow s = new SkinShow();
            s.pull(0, 5);
            Due.text(s, 0, "pull 0 " + e[i]);
            s.habit(0);
            it.is("by " + e[i], s.pull(0, 0), pull[i]);
        }
    }

    private static void termsOfSeen() {
        Sentence it = Sentence.terms(3, "SEEN is a PLACE on a GROUND, if the eye's E is not 0;");
        String[] e = {"0", "1", "0-1", "9999", "9999*9999*22", "1-1", "!1", "!0"};
        int[] seen = {0, 1, 1, 1, 1, 0, 0, 1};
        for (int i = 0; i < e.length; i++) {
            SkinShow s = new SkinShow();
            Due.text(s, 0, "eye " + e[i]);
            it.is("by " + e[i], s.seen(0, 0), seen[i]);
            it.is("by " + e[i], s.seen(3, 47), seen[i]);
        }
    }

    private static void termsOfSeenWithoutText() {
        Sentence it = Sentence.terms(3, "without one that counts: if d is above 9.");
        int[] ground = {39, 40, 41, 50, 59, 60, 61, 99};
        int[] seen = {1, 1, 0, 0, 0, 1, 1, 1};
        SkinShow s = new SkinShow();
        Due.line(s, 23, ground);
        Due.text(s, 1, "eye 1");
        Due.text(s, 0, "pull 0 1");
        for (int x = 0; x < 8; x++) {
            it.is("50 on " + ground[x], s.seen(3, 40 + x), seen[x]);
        }
        s.tick(1);
        it.is("with one that counts", s.seen(3, 43), 1);
    }

    // ---- Promises 19 to 25

    private static void feed() {
        Sentence it = Sentence.of(19, "Twelve bytes come to THE TAPE, the highest of each number first: how many it has.");
        SkinShow s = new SkinShow();
        for (int many = 12; many <= 96; many += 12) {
            it.is("any ints", s.feed(Due.LEAST, Due.MOST, -1), many);
            it.is("how many it has", s.count(12), many);
        }
        s.trim(1);
        it.is("behind one byte", s.feed(0, 0, 0), 13);
        it.is("behind 13", s.feed(0, 0, 0), 25);
    }

    private static void feedOrder() {
        Sentence it = Sentence.of(19, "the highest of each number first");
        SkinShow s = new SkinShow();
        // "pull", " 3 1", "2+34"
        s.feed(0x70756c6c, 0x20332031, 0x322b3334);
        it.is("a TEXT of twelve bytes", s.text(0), 0);
        it.is("its GROUP", s.of(0, 0), 3);
        it.is("what it gives", s.gives(3, 0, 0, 0, 0), 46);
        // "eye ", "1+2+", "3+4?" with a byte above 127 at each place in turn
        int[] fed = {0x65796520, 0x312b322b, 0x332b3420};
        for (int at = 0; at < 12; at++) {
            int[] f = fed.clone();
            f[at / 4] = f[at / 4] & ~(0xff << 24 - at % 4 * 8) | 0xe4 << 24 - at % 4 * 8;
            s.feed(f[0], f[1], f[2]);
            it.is("the byte 228 at " + at, s.text(0), at < 3 ? -100 : -100 - at);
        }
    }

    private static void feedFull() {
        Sentence it = Sentence.of(19, "FULL: it would have more than 96.");
        for (int has = 80; has <= 96; has++) {
            SkinShow s = new SkinShow();
            Due.write(s, "eye 1" + times(has - 5, " "));
            boolean fits = has <= 84;
            it.is("12 to " + has, s.feed(0x20202020, 0x20202020, 0x20202020), fits ? has + 12 : FULL);
            it.is("how many it has then", s.count(12), fits ? has + 12 : has);
            it.is("what stands there", s.text(0), 0);
        }
        Twins.unchanged(it, "feeding by FULL", s -> {
            s.trim(12);
            for (int i = 0; i < 7; i++) {
                s.feed(0x20202020, 0x20202020, 0x20202020);
            }
        }, s -> it.is("12 to 96", s.feed(-1, -1, -1), FULL), s -> { });
    }

    private static void trim() {
        Sentence it = Sentence.of(20, "THE TAPE keeps its first n bytes: n.");
        SkinShow s = new SkinShow();
        it.is("none of none", s.trim(0), 0);
        Due.write(s, "eye 1234");
        it.is("all", s.trim(8), 8);
        it.is("all but one", s.trim(7), 7);
        it.is("seven are there", s.count(12), 7);
        s.text(0);
        it.is("the first ones", s.gives(EYE, 0, 0, 0, 0), 123);
        Due.write(s, "eye 1234");
        it.is("none of eight", s.trim(0), 0);
        it.is("none is there", s.text(0), -100);
        Due.write(s, "eye 1");
        s.trim(3);
        s.feed(0x20373737, 0x20202020, 0x20202020);
        it.is("what comes then stands behind them", s.text(0), 1);
        it.is("and not behind what was cut", s.gives(EYE, 0, 0, 0, 0), 777);
        Due.write(s, "eye dgm");
        s.trim(5);
        it.is("no letter of what was cut", s.text(0), 2);
        it.is("what is left", s.gives(EYE, 8, 9, 9, 9), 8);
        Due.write(s, "eyes 1");
        s.trim(3);
        it.is("nor here", s.text(0), -103);
        Due.write(s, "eye 1 2");
        s.trim(5);
        it.is("no word of what was cut", s.text(0), 3);
    }

    private static void trimBad() {
        Sentence it = Sentence.of(20, "BAD.");
        Twins.unchanged(it, "trim by BAD", s -> it.refusesOutside("n of 12", 0, 12, s::trim, BAD));
        SkinShow s = new SkinShow();
        it.refusesOutside("n of 0", 0, 0, s::trim, BAD);
        Due.write(s, times(96, " "));
        it.is("97 of 96", s.trim(97), BAD);
        it.is("96 of 96", s.trim(96), 96);
    }

    private static void text() {
        Sentence it = Sentence.of(21, "THE TAPE is a TEXT from a TICK (0 .. 9999) on: its number.");
        SkinShow s = new SkinShow();
        it.is("from 0 on", Due.text(s, 0, "eye 1"), 0);
        it.is("from 9999 on", Due.text(s, 9999, "pull 0 1"), 1);
        it.is("its TICK", s.of(0, 1), 0);
        it.is("its TICK", s.of(1, 1), 9999);
        s.tick(7);
        it.is("from a TICK on that is gone", Due.text(s, 6, "eye 2"), 2);
        it.is("it counts", s.why(EYE), 2);
    }

    private static void textBad() {
        Sentence it = Sentence.of(21, "BAD (asked first; THE TAPE is used up, too);");
        int[] off = {-1, 10000, Due.LEAST, Due.MOST};
        for (int tick : off) {
            Twins.unchanged(it, "a TEXT by BAD", s -> { }, s -> it.is("tick " + tick, s.text(tick), BAD), s -> s.trim(0));
            SkinShow s = new SkinShow();
            it.is("ahead of a FAULT", Due.text(s, tick, "eye ("), BAD);
            it.is("ahead of a FAULT of an empty TAPE", s.text(tick), BAD);
        }
        SkinShow full = fourteen();
        it.is("ahead of FULL", Due.text(full, 10000, "eye 1"), BAD);
    }

    private static SkinShow fourteen() {
        SkinShow s = new SkinShow();
        for (int i = 0; i < 14; i++) {
            Due.text(s, 0, "eye 1");
        }
        return s;
    }

    private static void textFault() {
        Sentence it = Sentence.of(21, "-100 less the place of its FAULT;");
        fault(it, "", 0);
        fault(it, "eye 1" + times(90, "+") + " ", 6);
        fault(it, "eye " + times(91, " ") + "?", 95);
        fault(it, "eye " + times(92, " "), 96);
        Twins.unchanged(it, "a TEXT by a FAULT", s -> Due.write(s, "pull 2 r*3+"),
            s -> it.is("the end", s.text(0), -111), s -> s.trim(0));
        it.is("ahead of FULL", Due.text(fourteen(), 0, "eye"), -103);
        // what a TEXT at fault left open does not count for the next one
        String[] faulty = {"eye ((((((((", "eye !!!!!!!!", "pull 3 1+2*(3|!(4<", "eye 5|6&7<8+9*", "eye 1 1", "eye (1", "pull 3",
            "eye !!!", "eye 1+!(!(!", "eye 0-", "eye 2*!"};
        for (String before : faulty) {
            it.is("behind " + before + ": not open", behind(before, "eye d)", 0), -105);
            it.is("behind " + before + ": too many (", behind(before, "eye ((((((((!!!!!!!!(1)))))))", 0), -120);
            it.is("behind " + before + ": too many !", behind(before, "eye !!!!!!!!((((((((!1))))))))", 0), -120);
            it.is("behind " + before + ": eight of each", behind(before, "eye !!!!!!!!((((((((d*2|g))))))))+c", 3), 1);
            it.is("behind " + before + ": a NAME", behind(before, "eye d", 7), 7);
            it.is("behind " + before + ": in ( )", behind(before, "eye (d+1)*2", 7), 16);
            it.is("behind " + before + ": with !", behind(before, "eye !d-3", 0), -2);
        }
    }

    /** What a TEXT gives, or how it is refused, that comes behind one at fault. */
    private static int behind(String faulty, String text, int d) {
        SkinShow s = new SkinShow();
        if (Due.text(s, 0, faulty) > -100) {
            return 1000000;
        }
        int number = Due.text(s, 0, text);
        boolean whole = number == 0 && s.of(0, 0) == EYE;
        return whole ? s.gives(EYE, d, 0, 0, 0) : number;
    }

    private static void textFull() {
        Sentence it = Sentence.of(21, "FULL.");
        SkinShow s = fourteen();
        it.is("the fifteenth", Due.text(s, 0, "pull 0 1"), FULL);
        it.is("it does not count", s.why(0), NONE);
        it.is("THE TAPE is used up", s.count(12), 0);
        Twins.unchanged(it, "a TEXT by FULL", twin -> {
            for (int i = 3; i < 14; i++) {
                Due.text(twin, 0, "pull 5 3");
            }
            Due.write(twin, "pull 2 4");
        }, twin -> it.is("the fifteenth", twin.text(0), FULL), twin -> twin.trim(0));
    }

    private static void of() {
        Sentence it = Sentence.of(22, "Of a TEXT: what 0 its GROUP (6: the eye), 1 the TICK, 2 how many NUMBERS and NAMES "
            + "stand in it (GROUP not).");
        SkinShow s = new SkinShow();
        Due.text(s, 0, "pull 0 1");
        Due.text(s, 9999, "pull 5 (l+l)*!(3<0012)|l");
        Due.text(s, 12, "eye d" + times(45, "+1"));
        int[][] want = {{0, 0, 1}, {5, 9999, 5}, {6, 12, 46}};
        for (int text = 0; text < 3; text++) {
            for (int what = 0; what <= 2; what++) {
                it.is("of(" + text + ", " + what + ")", s.of(text, what), want[text][what]);
            }
        }
    }

    private static void ofBad() {
        Sentence it = Sentence.of(22, "BAD.");
        Twins.unchanged(it, "of by BAD", s -> {
            it.refusesOutside("text of three", 0, 2, text -> s.of(text, 0), BAD);
            it.refusesOutside("what", 0, 2, what -> s.of(0, what), BAD);
        });
        it.is("of no TEXTS the first", new SkinShow().of(0, 0), BAD);
    }

    private static void why() {
        Sentence it = Sentence.of(23, "WHY: the TEXT that counts for a GROUP (6: for the eye) now.");
        SkinShow s = new SkinShow();
        for (int group = 0; group <= 6; group++) {
            Due.text(s, 0, group == EYE ? "eye 1" : "pull " + group + " 1");
        }
        for (int group = 0; group <= 6; group++) {
            it.is("GROUP " + group, s.why(group), group);
        }
    }

    private static void whyBad() {
        Sentence it = Sentence.of(23, "BAD; NONE.");
        Twins.unchanged(it, "why by BAD", s -> it.refusesOutside("group", 0, 6, s::why, BAD));
    }

    private static void whyNone() {
        Sentence it = Sentence.of(23, "NONE.");
        for (int group = 0; group <= 6; group++) {
            it.is("GROUP " + group + " of none", new SkinShow().why(group), NONE);
        }
        SkinShow s = new SkinShow();
        Due.text(s, 1, "eye 1");
        it.is("not in force", s.why(EYE), NONE);
        Twins.unchanged(it, "why by NONE", twin -> it.is("no TEXT of GROUP 5", twin.why(5), NONE));
    }

    private static void gives() {
        Sentence it = Sentence.of(24, "What the TEXT that counts for a GROUP (6: for the eye) gives now for told numbers in "
            + "the order in which its NAMES stand above (not held).");
        String pull = "lreb", eye = "dgmc";
        int[] told = {Due.LEAST, -7, 100000, Due.MOST};
        for (int name = 0; name < 4; name++) {
            SkinShow s = new SkinShow();
            Due.text(s, 0, "pull 5 " + pull.charAt(name));
            Due.text(s, 0, "eye " + eye.charAt(name));
            it.is("the NAME " + pull.charAt(name), s.gives(5, told[0], told[1], told[2], told[3]), told[name]);
            it.is("the NAME " + eye.charAt(name), s.gives(EYE, told[0], told[1], told[2], told[3]), told[name]);
        }
        SkinShow s = new SkinShow();
        Due.text(s, 0, "pull 0 l");
        Due.text(s, 1, "pull 0 l+1");
        it.is("by the TEXT that counts now", s.gives(0, 10, 0, 0, 0), 10);
        s.tick(1);
        it.is("by the one that counts then", s.gives(0, 10, 0, 0, 0), 11);
        it.is("not held above 9, nor below 0", s.gives(0, -10, 0, 0, 0), -9);
        it.is("the PULL stays", s.pull(0, 0), 0);
    }

    private static void givesBad() {
        Sentence it = Sentence.of(24, "BAD; NONE: there is no TEXT.");
        Twins.unchanged(it, "gives by BAD", s -> it.refusesOutside("group", 0, 6, group -> s.gives(group, 1, 2, 3, 4), BAD));
        it.is("BAD ahead of NONE", new SkinShow().gives(7, 0, 0, 0, 0), BAD);
    }

    private static void givesNone() {
        Sentence it = Sentence.of(24, "NONE: there is no TEXT.");
        for (int group = 0; group <= 6; group++) {
            it.is("GROUP " + group + " of none", new SkinShow().gives(group, 1, 2, 3, 4), NONE);
        }
        SkinShow s = new SkinShow();
        Due.text(s, 1, "pull 2 1");
        it.is("none in force", s.gives(2, 0, 0, 0, 0), NONE);
        Due.text(s, 0, "pull 2 0-9999");
        it.is("far below 0 is no refusal", s.gives(2, 0, 0, 0, 0), -9999);
        Twins.unchanged(it, "gives by NONE", twin -> it.is("no TEXT of GROUP 5", twin.gives(5, 1, 2, 3, 4), NONE));
    }

    private static void habit() {
        Sentence it = Sentence.of(25, "THE HABIT for a GROUND is put on: how many PULLS changed.");
        SkinShow s = new SkinShow();
        it.is("no TEXTS", s.habit(0), 0);
        for (int group = 0; group <= 5; group++) {
            Due.text(s, 0, "pull " + group + " 9");
            it.is("one more changes", s.habit(group % 4), 1);
            it.is("again", s.habit(group % 4), 0);
        }
        for (int group = 0; group <= 5; group++) {
            s.pull(group, 0);
        }
        it.is("all six", s.habit(3), 6);
        it.is("none", s.habit(3), 0);
        s.pull(4, 8);
        it.is("one", s.habit(3), 1);
        it.is("its PULL", s.pull(4, 9), 9);
    }

    private static void habitBad() {
        Sentence it = Sentence.of(25, "BAD.");
        Twins.unchanged(it, "THE HABIT by BAD", s -> it.refusesOutside("ground", 0, 3, s::habit, BAD));
    }
}
