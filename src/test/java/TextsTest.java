/** Promises 19 to 25: texts. */
public final class TextsTest {
    private static final int BAD = Due.BAD, FULL = Due.FULL, NONE = Due.NONE;
    private static final Due due = new Due("TextsTest");

    public static void main(String[] args) {
        feed();
        trim();
        text();
        textFull();
        faultsAtTheHead();
        faults();
        faultsOfWords();
        faultsOfDepth();
        faultsAtTheEnd();
        goodOnes();
        goodBehindFaults();
        of();
        why();
        whyOfSeveral();
        gives();
        givesInOrder();
        givesWraps();
        habit();
        habitAsks();
        due.end();
    }

    private static void feed() {
        SkinShow s = new SkinShow();
        for (int many = 12; many <= 96; many += 12) {
            due.is(19, "feed", s.feed(1, -2, Due.LEAST), many);
        }
        due.is(19, "above 96", s.feed(0, 0, 0), FULL);
        due.is(19, "it stays", s.count(12), 96);
        s.trim(85);
        due.is(19, "85 and 12", s.feed(0, 0, 0), FULL);
        s.trim(84);
        due.is(19, "84 and 12", s.feed(0, 0, 0), 96);
        SkinShow order = new SkinShow();
        // "pull" " 0 7" "    "
        order.feed(0x70756c6c, 0x20302037, 0x20202020);
        due.is(19, "the highest byte first", order.text(0), 0);
        due.is(19, "what was fed", order.gives(0, 0, 0, 0, 0), 7);
        order.feed(0x20202020, 0xff20ffff, 0);
        due.is(19, "a byte above 127 is a sign", order.text(0), -104);
    }

    private static void trim() {
        SkinShow s = new SkinShow();
        due.is(20, "an empty one", s.trim(0), 0);
        due.is(20, "n 1 of none", s.trim(1), BAD);
        due.is(20, "n -1", s.trim(-1), BAD);
        s.feed(0, 0, 0);
        due.is(20, "n 13 of 12", s.trim(13), BAD);
        due.is(20, "far off", s.trim(Due.MOST), BAD);
        due.is(20, "all", s.trim(12), 12);
        due.is(20, "seven", s.trim(7), 7);
        due.is(20, "seven are there", s.count(12), 7);
        due.is(20, "eight of seven", s.trim(8), BAD);
        Due.write(s, "eye 12");
        s.trim(5);
        s.text(0);
        due.is(20, "its first bytes are kept", s.gives(6, 0, 0, 0, 0), 1);
    }

    private static void text() {
        SkinShow s = new SkinShow();
        Due.write(s, "eye d");
        due.is(21, "tick -1", s.text(-1), BAD);
        due.is(21, "THE TAPE is used up", s.count(12), 0);
        Due.write(s, "eye (");
        due.is(21, "BAD ahead of a FAULT", s.text(10000), BAD);
        due.is(21, "no TEXT came", s.count(7), 0);
        due.is(21, "tick 0", Due.text(s, 0, "eye d"), 0);
        due.is(21, "used up by a TEXT", s.count(12), 0);
        due.is(21, "tick 9999", Due.text(s, 9999, "pull 5 b"), 1);
        due.is(21, "a FAULT", Due.text(s, 0, "eye d)"), -105);
        due.is(21, "used up by a FAULT", s.count(12), 0);
        due.is(21, "no TAPE", s.text(0), -100);
        due.is(21, "two TEXTS", s.count(7), 2);
    }

    private static void textFull() {
        SkinShow s = new SkinShow();
        for (int i = 0; i < 14; i++) {
            due.is(21, "one more", Due.text(s, 0, "eye 1"), i);
        }
        due.is(21, "the fifteenth", Due.text(s, 0, "eye 1"), FULL);
        due.is(21, "used up by FULL", s.count(12), 0);
        due.is(21, "a FAULT ahead of FULL", Due.text(s, 0, "eye"), -103);
        due.is(21, "BAD ahead of FULL", Due.text(s, -1, "eye 1"), BAD);
        due.is(21, "fourteen", s.count(7), 14);
        due.is(21, "the last one counts", s.why(6), 13);
    }

    /** The text's fault at a place; of a good text, place -1 is told. */
    private static void fault(String text, int place) {
        SkinShow s = new SkinShow();
        due.is(21, "\"" + text + "\"", Due.text(s, 0, text), place < 0 ? 0 : -100 - place);
    }

    private static void faultsAtTheHead() {
        fault("", 0);
        fault("   ", 3);
        fault("x", 0);
        fault("  eyes d", 2);
        fault("ey d", 0);
        fault("EYE d", 0);
        fault("(eye d)", 0);
        fault("7 d", 0);
        fault("eye", 3);
        fault("eye  ", 5);
        fault("eyed", 0);
        fault("eyea d", 0);
        fault("eyez d", 0);
        fault("aeye d", 0);
        fault("zeye d", 0);
        fault("xye d", 0);
        fault("eyx d", 0);
        fault("xull 0 l", 0);
        fault("pul 0 l", 0);
        fault("pulll 0 l", 0);
        fault("eye7", 3);
        fault("pull", 4);
        fault("pull l", 5);
        fault("pull6 l", 4);
        fault("pull 6 l", 5);
        fault("pull 00 l", 5);
        fault("pull 12 l", 5);
        fault("pull (1) l", 5);
        fault("pull 1", 6);
        fault("pull 1l", 6);
        fault("pull1 l", 4);
        fault("pull 1 1", -1);
        fault("\teye d", 0);
    }

    private static void faults() {
        fault("eye l", 4);
        fault("pull 0 d", 7);
        fault("eye dd", 4);
        fault("eye d d", 6);
        fault("eye d 7", 6);
        fault("eye 7 (d)", 6);
        fault("eye (d)(d)", 7);
        fault("eye d!", 5);
        fault("eye d+!d", -1);
        fault("eye d)", 5);
        fault("eye )", 4);
        fault("eye ()", 5);
        fault("eye (d+)", 7);
        fault("eye +d", 4);
        fault("eye -1", 4);
        fault("eye d**g", 6);
        fault("eye d&&g", 6);
        fault("eye d<=g", 6);
        fault("eye d<g<m", 7);
        fault("eye d<g+1=m", 9);
        fault("eye d<g&m>c", -1);
        fault("eye d<g|m>c>1", 11);
        fault("eye (d<g)=m", -1);
        fault("eye (d<g>m)", 8);
        fault("eye (d<(g>m))", -1);
        fault("eye d%g", 5);
        fault("eye d\tg", 5);
        fault("eye d\n", 5);
        fault("eye d,", 5);
        fault("eye D", 4);
        fault("eye \u00e4", 4);
        fault("eye d{", 5);
        fault("eye `", 4);
        fault("eye :", 4);
    }

    private static void faultsOfWords() {
        fault("eye 1234", -1);
        fault("eye 12345", 4);
        fault("eye 00000", 4);
        fault("eye 0000", -1);
        fault("eye 1d", 5);
        fault("eye d1", 5);
        fault("eye d+1g", 7);
        fault("eye d&g", -1);
        fault("eye d & g ", -1);
        fault("eye(d)", -1);
        fault("eye!d", -1);
        fault("eye (d)g", 7);
        fault("pull 3(l)", -1);
        fault("pull 3!l", -1);
        fault("pull 3 4r", 8);
        fault("pull 3  r", -1);
        fault("  pull   3   r  ", -1);
    }

    private static void faultsOfDepth() {
        fault("eye !!!!!!!!d", -1);
        fault("eye !!!!!!!!!d", 12);
        fault("eye ((((((((d))))))))", -1);
        fault("eye (((((((((d)))))))))", 12);
        fault("eye !(!(!(!(!(!(!(!(d))))))))", -1);
        fault("eye !(!(!(!(!(!(!(!(!d))))))))", 20);
        fault("eye !(!(!(!(!(!(!(!((d))))))))", 20);
        fault("eye !(d)+!d+!d+!d+!d+!d+!d+!d+!d+!d", -1);
        fault("eye (d)+(d)+(d)+(d)+(d)+(d)+(d)+(d)+(d)+(d)", -1);
        // each ends with its piece: here seven stay open, and the eighth ends twice
        fault("eye !!!!!!!(!d+!d)", -1);
        fault("eye !!!!!!!(!d+!!d)", 16);
        fault("eye (((((((d)+(d)))))))", -1);
        fault("eye (((((((d)+((d))))))))", -1);
        fault("eye ((((((((d)+(d)))))))", 24);
        fault("eye ((((((((d)+((d))))))))", 16);
    }

    private static void faultsAtTheEnd() {
        fault("eye d+", 6);
        fault("eye d+ ", 7);
        fault("eye !", 5);
        fault("eye (d", 6);
        fault("eye (d  ", 8);
        fault("eye ((d)", 8);
        fault("pull 1 ", 7);
        StringBuilder full = new StringBuilder("pull 0 l");
        while (full.length() < 96) {
            full.append("+l");
        }
        fault(full.toString(), -1);
        full.setCharAt(95, ' ');
        fault(full.toString(), 96);
        full.setCharAt(95, ')');
        fault(full.toString(), 95);
    }

    private static void goodOnes() {
        SkinShow s = new SkinShow();
        StringBuilder full = new StringBuilder("pull 0 l");
        while (full.length() < 96) {
            full.append("+l");
        }
        due.is(21, "96 bytes", Due.text(s, 0, full.toString()), 0);
        due.is(22, "45 NAMES", s.of(0, 2), 45);
        due.is(24, "45 times", s.gives(0, 2, 0, 0, 0), 90);
    }

    private static void goodBehindFaults() {
        SkinShow s = new SkinShow();
        String[] faulty = {"eye 1+(!(!(!", "eye (((((((((", "eye !!!!!!!!!", "pull 3 1*2<", "eye 5|6&7)", "eye 1 1"};
        for (int i = 0; i < faulty.length; i++) {
            due.is(21, "a FAULT in " + faulty[i], Due.text(s, 0, faulty[i]) < -100 ? 1 : 0, 1);
            due.is(21, "a good one behind it", Due.text(s, 0, "eye (!(d))+1"), i);
            due.is(22, "its group", s.of(i, 0), 6);
            due.is(22, "its NUMBERS and NAMES", s.of(i, 2), 2);
            due.is(24, "what it gives", s.gives(6, 0, 0, 0, 0), 2);
        }
        Due.text(s, 0, "eye !!!!!!!!((((((((d))))))))");
        due.is(24, "eight of each", s.gives(6, 3, 0, 0, 0), 1);
        s.keep();
        Due.text(s, 0, "eye 1+2*3-4+5-6");
        s.back();
        Due.text(s, 0, "eye 1");
        due.is(24, "a short one where a long one was", s.gives(6, 0, 0, 0, 0), 1);
        s.back();
        Due.text(s, 0, "eye !7");
        due.is(24, "another one there", s.gives(6, 0, 0, 0, 0), 0);
        s.back();
        Due.text(s, 0, "eye 7");
        due.is(24, "without its sign", s.gives(6, 0, 0, 0, 0), 7);
    }

    private static void of() {
        SkinShow s = new SkinShow();
        due.is(22, "no TEXT", s.of(0, 0), BAD);
        Due.text(s, 0, "eye (d + 10) * !g & 3 < m | c");
        Due.text(s, 9999, "pull 5 7");
        int[][] want = {{6, 0, 6}, {5, 9999, 1}};
        for (int text = 0; text < 2; text++) {
            for (int what = 0; what < 3; what++) {
                due.is(22, "of(" + text + ", " + what + ")", s.of(text, what), want[text][what]);
            }
        }
        due.is(22, "what -1", s.of(0, -1), BAD);
        due.is(22, "what 3", s.of(0, 3), BAD);
        due.is(22, "text -1", s.of(-1, 0), BAD);
        due.is(22, "text 2", s.of(2, 0), BAD);
    }

    private static void why() {
        SkinShow s = new SkinShow();
        due.is(23, "group -1", s.why(-1), BAD);
        due.is(23, "group 7", s.why(7), BAD);
        for (int group = 0; group <= 6; group++) {
            due.is(23, "no TEXT", s.why(group), NONE);
        }
        Due.text(s, 3, "pull 4 1");
        due.is(23, "not yet in force", s.why(4), NONE);
        s.tick(2);
        due.is(23, "nor now", s.why(4), NONE);
        s.tick(1);
        due.is(23, "in force", s.why(4), 0);
        due.is(23, "not for others", s.why(3), NONE);
        due.is(23, "nor for the eye", s.why(6), NONE);
    }

    private static void whyOfSeveral() {
        SkinShow s = new SkinShow();
        Due.text(s, 2, "eye 1");
        Due.text(s, 0, "eye 2");
        Due.text(s, 2, "eye 3");
        Due.text(s, 1, "eye 4");
        Due.text(s, 2, "pull 0 5");
        due.is(23, "at 0", s.why(6), 1);
        s.tick(1);
        due.is(23, "at 1", s.why(6), 3);
        s.tick(1);
        due.is(23, "at 2: the greatest number", s.why(6), 2);
        Due.text(s, 1, "eye 6");
        due.is(23, "one that is older", s.why(6), 2);
        Due.text(s, 2, "eye 7");
        due.is(23, "one of the same TICK", s.why(6), 6);
    }

    private static int worth(String e, int a, int b, int c, int d) {
        SkinShow s = new SkinShow();
        Due.text(s, 0, "eye " + e);
        return s.gives(6, a, b, c, d);
    }

    private static void gives() {
        SkinShow s = new SkinShow();
        due.is(24, "group -1", s.gives(-1, 0, 0, 0, 0), BAD);
        due.is(24, "group 7", s.gives(7, 0, 0, 0, 0), BAD);
        due.is(24, "no TEXT", s.gives(6, 0, 0, 0, 0), NONE);
        due.is(24, "no TEXT", s.gives(0, 0, 0, 0, 0), NONE);
        Due.text(s, 0, "pull 2 l*1000+r*100+e*10+b");
        Due.text(s, 0, "eye d*1000+g*100+m*10+c");
        due.is(24, "of a GROUP", s.gives(2, 1, 2, 3, 4), 1234);
        due.is(24, "of the eye", s.gives(6, 5, 6, 7, 8), 5678);
        due.is(24, "not held", s.gives(6, -5, 0, 0, 0), -5000);
        Due.text(s, 1, "eye 9999");
        due.is(24, "not yet", s.gives(6, 0, 0, 0, 1), 1);
        s.tick(1);
        due.is(24, "now", s.gives(6, 0, 0, 0, 1), 9999);
    }

    private static void givesInOrder() {
        due.is(24, "from the left", worth("d-g-m", 9, 3, 2, 0), 4);
        due.is(24, "from the left", worth("d/g*m", 9, 2, 3, 0), 12);
        due.is(24, "from the left", worth("d/g/m", 100, 7, 2, 0), 7);
        due.is(24, "* ahead of +", worth("d+g*m", 1, 2, 3, 0), 7);
        due.is(24, "* ahead of -", worth("d*g-m", 1, 2, 3, 0), -1);
        due.is(24, "( )", worth("(d+g)*m", 1, 2, 3, 0), 9);
        due.is(24, "+ ahead of <", worth("d<g+m", 4, 2, 3, 0), 1);
        due.is(24, "+ ahead of >", worth("d+g>m", 4, 2, 5, 0), 1);
        due.is(24, "< ahead of &", worth("d&g<m", 2, 1, 3, 0), 1);
        due.is(24, "= ahead of &", worth("1=d&2", 1, 0, 0, 0), 1);
        due.is(24, "& ahead of |", worth("d|g&m", 1, 1, 0, 0), 1);
        due.is(24, "& ahead of |", worth("d&g|m", 0, 0, 1, 0), 1);
        due.is(24, "( | )", worth("(d|g)&m", 1, 1, 0, 0), 0);
        due.is(24, "! of a PIECE", worth("!d+g", 0, 5, 0, 0), 6);
        due.is(24, "! of ( )", worth("!(d+g)", 0, 5, 0, 0), 0);
        due.is(24, "!!", worth("!!d", -7, 0, 0, 0), 1);
        due.is(24, "!=", worth("!d=g", 3, 0, 0, 0), 1);
        due.is(24, "&", worth("d&g", 6, 9, 0, 0), 1);
        due.is(24, "& with 0", worth("d&g", 6, 0, 0, 0), 0);
        due.is(24, "|", worth("d|g", -6, 0, 0, 0), 1);
        due.is(24, "| with 0", worth("d|g", 0, 0, 0, 0), 0);
        due.is(24, "<", worth("d<g", 2, 2, 0, 0), 0);
        due.is(24, ">", worth("d>g", 2, 2, 0, 0), 0);
        due.is(24, "=", worth("d=g", 2, 2, 0, 0), 1);
        due.is(24, "=", worth("d=g", 200000, 200000, 0, 0), 1);
        due.is(24, "< of tests", worth("(d<g)<(m<c)", 2, 1, 1, 2), 1);
        due.is(24, "a number", worth("0042", 0, 0, 0, 0), 42);
        due.is(24, "0 is a number", worth("0", 7, 7, 7, 7), 0);
        due.is(24, "0 is a number", worth("3-0", 7, 7, 7, 7), 3);
    }

    private static void givesWraps() {
        due.is(24, "+ wraps", worth("d+1", Due.MOST, 0, 0, 0), Due.LEAST);
        due.is(24, "- wraps", worth("d-1", Due.LEAST, 0, 0, 0), Due.MOST);
        due.is(24, "* wraps", worth("d*g", 65536, 65536, 0, 0), 0);
        due.is(24, "* wraps", worth("d*d", 46341, 0, 0, 0), -2147479015);
        due.is(24, "/ 0", worth("d/g", 7, 0, 0, 0), 0);
        due.is(24, "0 / 0", worth("d/(g-g)", 0, 5, 0, 0), 0);
        due.is(24, "/ towards 0", worth("d/g", -7, 2, 0, 0), -3);
        due.is(24, "/ wraps", worth("d/g", Due.LEAST, -1, 0, 0), Due.LEAST);
        due.is(24, "< of far ones", worth("d<g", Due.LEAST, Due.MOST, 0, 0), 1);
        due.is(24, "9999 times 9999 times 9999", worth("9999*9999*9999", 0, 0, 0, 0), (int) (9999L * 9999 * 9999));
    }

    private static void habit() {
        SkinShow s = new SkinShow();
        due.is(25, "ground -1", s.habit(-1), BAD);
        due.is(25, "ground 4", s.habit(4), BAD);
        s.pull(2, 3);
        due.is(25, "no TEXTS", s.habit(0), 0);
        Due.text(s, 0, "pull 0 l");
        Due.text(s, 0, "pull 1 0-l");
        Due.text(s, 0, "pull 3 l-45");
        Due.text(s, 1, "pull 4 7");
        Due.text(s, 0, "eye 7");
        due.is(25, "two change", s.habit(0), 2);
        int[] pulls = {9, 0, 3, 5, 0, 0};
        for (int group = 0; group < 6; group++) {
            due.is(25, "PULL of " + group, s.pull(group, pulls[group]), pulls[group]);
        }
        due.is(25, "none changes", s.habit(0), 0);
        s.tick(1);
        due.is(25, "one more is in force", s.habit(0), 1);
        due.is(25, "its PULL", s.pull(4, 0), 7);
        Due.shade(s, 3, 53);
        due.is(25, "on another GROUND", s.habit(3), 2);
        due.is(25, "PULL by it", s.pull(3, 0), 8);
    }

    private static void habitAsks() {
        SkinShow s = new SkinShow();
        Due.text(s, 0, "pull 0 l/10");
        Due.text(s, 0, "pull 1 r+1");
        Due.text(s, 0, "pull 2 e");
        Due.text(s, 0, "pull 3 b+3");
        s.line(0, 1, 8);
        for (int x = 0; x < 8; x++) {
            s.put(0, x, 50);
        }
        s.put(0, 3, 99);
        due.is(25, "all four change", s.habit(0), 4);
        // 2449 by 48 is 51; 147 by 82 is 1; 3 edges; 1 bright one
        int[] pulls = {5, 2, 3, 4};
        for (int group = 0; group < 4; group++) {
            due.is(25, "PULL of " + group, s.pull(group, 0), pulls[group]);
        }
        s.rule(2, 50);
        s.habit(0);
        due.is(25, "edges by another EDGE", s.pull(2, 0), 0);
        due.is(25, "bright ones by another EDGE", s.pull(3, 0), 3);
    }
}
