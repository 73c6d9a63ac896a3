/** Promises 14 to 18: grounds. */
public final class GroundsTest {
    private static final int BAD = Due.BAD, NOTHING = Due.NOTHING, KIND = Due.KIND, INDEX = Due.INDEX, SIZE = Due.SIZE;
    private static final Due due = new Due("GroundsTest");

    public static void main(String[] args) {
        line();
        put();
        copy();
        copyOntoItself();
        ground();
        howLight();
        roughAndEdges();
        brightOnes();
        due.end();
    }

    private static void line() {
        SkinShow s = new SkinShow();
        due.is(14, "line -1", s.line(-1, 0, 1), BAD);
        due.is(14, "line 24", s.line(24, 0, 1), BAD);
        due.is(14, "sort -2", s.line(0, -2, 1), BAD);
        due.is(14, "sort 2", s.line(0, 2, 1), BAD);
        due.is(14, "n 25", s.line(0, 0, 25), BAD);
        due.is(14, "n -1", s.line(0, 1, -1), SIZE);
        due.is(14, "n far below", s.line(0, 1, Due.LEAST), SIZE);
        due.is(14, "BAD ahead of SIZE", s.line(24, 1, -1), BAD);
        due.is(14, "nothing came", s.count(10), 0);
        due.is(14, "n 24", s.line(23, 1, 24), 24);
        due.is(14, "n 0", s.line(0, 0, 0), 0);
        due.is(14, "both are there", s.count(10), 2);
        due.is(14, "the last place", s.put(23, 23, 77), 0);
        due.is(14, "no place", s.put(0, 0, 1), INDEX);
        due.is(14, "anew", s.line(23, 1, 24), 24);
        due.is(14, "all 0 again", s.put(23, 23, 5), 0);
        s.put(23, 0, 6);
        s.line(23, 1, 24);
        due.is(14, "the first, too", s.put(23, 0, 6), 0);
        due.is(14, "MISSING, n any", s.line(23, -1, 25), 0);
        due.is(14, "MISSING, n below 0", s.line(23, -1, -7), 0);
        due.is(14, "one is left", s.count(10), 1);
        due.is(14, "it is MISSING", s.put(23, 0, 1), NOTHING);
        s.line(5, 1, 8);
        s.put(5, 0, 300);
        due.is(14, "refused", s.line(5, 0, 25), BAD);
        due.is(14, "it stays as it was", s.put(5, 0, 1), 300);
    }

    private static void put() {
        SkinShow s = new SkinShow();
        s.line(0, 0, 3);
        s.line(1, 1, 3);
        due.is(15, "line -1", s.put(-1, 0, 1), BAD);
        due.is(15, "line 24", s.put(24, 0, 1), BAD);
        due.is(15, "MISSING", s.put(2, -1, 1), NOTHING);
        due.is(15, "place -1", s.put(0, -1, 1), INDEX);
        due.is(15, "place 3", s.put(0, 3, 1), INDEX);
        due.is(15, "far off", s.put(0, Due.MOST, 1), INDEX);
        int[] v = {127, 128, 255, 256, -128, -129, Due.LEAST, Due.MOST, 70000};
        int[] asByte = {127, -128, -1, 0, -128, 127, 0, -1, 112};
        for (int i = 0; i < v.length; i++) {
            s.put(0, 2, v[i]);
            due.is(15, v[i] + " as a byte", s.put(0, 2, 0), asByte[i]);
            s.put(1, 2, v[i]);
            due.is(15, v[i] + " as an int", s.put(1, 2, 0), v[i]);
        }
        due.is(15, "the place beside", s.put(1, 1, 4), 0);
    }

    private static void copy() {
        SkinShow s = new SkinShow();
        Due.line(s, 0, 1, 2, 3, 4);
        Due.line(s, 1, 9, 9);
        s.line(2, 1, 4);
        due.is(16, "from -1", s.copy(-1, 0, 0, 0, 1), BAD);
        due.is(16, "from 24", s.copy(24, 0, 0, 0, 1), BAD);
        due.is(16, "to -1", s.copy(0, 0, -1, 0, 1), BAD);
        due.is(16, "to 24", s.copy(3, 0, 24, 0, 1), BAD);
        due.is(16, "from a MISSING one", s.copy(3, 0, 0, 0, 1), NOTHING);
        due.is(16, "to a MISSING one", s.copy(0, 0, 3, 0, -1), NOTHING);
        due.is(16, "of unlike sorts", s.copy(0, 9, 2, 0, 1), KIND);
        due.is(16, "many -1", s.copy(0, 0, 1, 0, -1), INDEX);
        due.is(16, "place -1", s.copy(0, -1, 1, 0, 1), INDEX);
        due.is(16, "at -1", s.copy(0, 0, 1, -1, 1), INDEX);
        due.is(16, "beyond the end there", s.copy(0, 0, 1, 1, 2), INDEX);
        due.is(16, "beyond the end here", s.copy(1, 1, 0, 0, 2), INDEX);
        due.is(16, "sums that wrap", s.copy(0, 1, 1, 1, Due.MOST), INDEX);
        due.is(16, "and", s.copy(0, Due.MOST, 1, 0, 1), INDEX);
        due.is(16, "and", s.copy(0, 0, 1, Due.MOST, Due.MOST), INDEX);
        due.is(16, "0 places behind the end", s.copy(0, 5, 1, 0, 0), INDEX);
        due.is(16, "0 places at the ends", s.copy(0, 4, 1, 2, 0), 0);
        due.is(16, "nothing changed yet", s.put(1, 0, 9), 9);
        due.is(16, "two", s.copy(0, 2, 1, 0, 2), 2);
        due.is(16, "the first", s.put(1, 0, 0), 3);
        due.is(16, "the second", s.put(1, 1, 0), 4);
        due.is(16, "those copied stay", s.put(0, 2, 0), 3);
        s.line(4, 1, 4);
        s.put(2, 3, 100000);
        Due.line(s, 23, 8);
        due.is(16, "from the last LINE", s.copy(23, 0, 0, 0, 1), 1);
        due.is(16, "to the last LINE", s.copy(0, 1, 23, 0, 1), 1);
        due.is(16, "what came from it", s.put(0, 0, 0), 8);
        due.is(16, "what came to it", s.put(23, 0, 0), 2);
        due.is(16, "ints", s.copy(2, 3, 4, 0, 1), 1);
        due.is(16, "as they were", s.put(4, 0, 0), 100000);
    }

    private static void copyOntoItself() {
        SkinShow s = new SkinShow();
        Due.line(s, 0, 1, 2, 3, 4, 5);
        due.is(16, "forth", s.copy(0, 0, 0, 1, 4), 4);
        int[] forth = {1, 1, 2, 3, 4};
        for (int i = 0; i < 5; i++) {
            due.is(16, "forth at " + i, s.put(0, i, i), forth[i]);
        }
        due.is(16, "back", s.copy(0, 1, 0, 0, 4), 4);
        int[] back = {1, 2, 3, 4, 4};
        for (int i = 0; i < 5; i++) {
            due.is(16, "back at " + i, s.put(0, i, i), back[i]);
        }
        due.is(16, "all onto itself", s.copy(0, 0, 0, 0, 5), 5);
    }

    private static void ground() {
        SkinShow s = new SkinShow();
        due.is(17, "ground -1", s.ground(-1, 0), BAD);
        due.is(17, "ground 4", s.ground(4, 0), BAD);
        due.is(17, "place -1", s.ground(0, -1), BAD);
        due.is(17, "place 48", s.ground(0, 48), BAD);
        due.is(17, "MISSING", s.ground(3, 47), 50);
        Due.line(s, 6 * 3 + 5, 0, 99, 100, -1, 127, 128, 1);
        int[] want = {0, 99, 99, 0, 99, 0, 1, 50};
        for (int x = 0; x < 8; x++) {
            due.is(17, "x " + x, s.ground(3, 40 + x), want[x]);
        }
        due.is(17, "the row above", s.ground(3, 32), 50);
        due.is(17, "another GROUND", s.ground(2, 41), 50);
        s.line(7, 1, 24);
        s.put(7, 8, 4);
        s.put(7, 7, Due.MOST);
        due.is(17, "an int", s.ground(1, 15), 99);
        due.is(17, "places beyond x 7 are not asked", s.ground(1, 16), 50);
        s.put(7, 7, Due.LEAST);
        due.is(17, "a low one", s.ground(1, 15), 0);
    }

    private static void howLight() {
        SkinShow s = new SkinShow();
        due.is(18, "ground -1", s.ask(-1, 0), BAD);
        due.is(18, "ground 4", s.ask(4, 0), BAD);
        due.is(18, "question -1", s.ask(0, -1), BAD);
        due.is(18, "question 4", s.ask(0, 4), BAD);
        int[] plain = {50, 0, 0, 0};
        for (int question = 0; question < 4; question++) {
            due.is(18, "a GROUND without LINES", s.ask(2, question), plain[question]);
        }
        Due.shade(s, 1, 99);
        due.is(18, "99", s.ask(1, 0), 99);
        s.put(11, 7, 98);
        due.is(18, "cut", s.ask(1, 0), 98);
        // 47 by 48 is cut to 0
        Due.shade(s, 2, 1);
        s.put(12, 0, 0);
        due.is(18, "cut to 0", s.ask(2, 0), 0);
        s.put(12, 0, 1);
        due.is(18, "just 1", s.ask(2, 0), 1);
    }

    private static void roughAndEdges() {
        SkinShow s = new SkinShow();
        Due.shade(s, 0, 50);
        // a corner lies beside 2, a rim beside 3, another beside 4
        s.put(0, 0, 91);
        due.is(18, "82 by 82", s.ask(0, 1), 1);
        s.put(0, 0, 90);
        due.is(18, "80 by 82", s.ask(0, 1), 0);
        s.put(0, 0, 70);
        due.is(18, "edges at a corner", s.ask(0, 2), 2);
        s.put(0, 0, 69);
        due.is(18, "just below EDGE", s.ask(0, 2), 0);
        s.put(0, 0, 30);
        due.is(18, "darker ones, too", s.ask(0, 2), 2);
        s.put(0, 0, 50);
        s.put(3, 7, 77);
        due.is(18, "81 by 82", s.ask(0, 1), 0);
        s.put(3, 7, 80);
        due.is(18, "edges at the rim", s.ask(0, 2), 3);
        s.put(3, 6, 80);
        due.is(18, "edges round two", s.ask(0, 2), 5);
        s.rule(2, 31);
        due.is(18, "with another EDGE", s.ask(0, 2), 0);
        s.put(3, 7, 50);
        s.put(3, 6, 0);
        s.rule(2, 50);
        due.is(18, "edges within", s.ask(0, 2), 4);
        s.put(5, 0, 99);
        s.rule(2, 49);
        due.is(18, "no two runs over the rim", s.ask(0, 2), 6);
    }

    private static void brightOnes() {
        SkinShow s = new SkinShow();
        Due.shade(s, 0, 50);
        s.put(0, 0, 70);
        due.is(18, "a bright corner", s.ask(0, 3), 1);
        s.put(0, 0, 69);
        due.is(18, "not bright enough", s.ask(0, 3), 0);
        s.put(0, 0, 10);
        due.is(18, "a dark one", s.ask(0, 3), 0);
        s.put(2, 3, 90);
        due.is(18, "one within", s.ask(0, 3), 1);
        s.put(2, 4, 71);
        due.is(18, "one beside it is nearly as bright", s.ask(0, 3), 0);
        s.put(2, 4, 70);
        due.is(18, "just less", s.ask(0, 3), 1);
        s.put(5, 7, 99);
        s.put(0, 7, 99);
        s.put(5, 0, 99);
        due.is(18, "three corners more", s.ask(0, 3), 4);
        s.put(4, 0, 99);
        due.is(18, "one less", s.ask(0, 3), 3);
        s.line(1, -1, 0);
        due.is(18, "a LINE less", s.ask(0, 3), 3);
        Due.shade(s, 1, 50);
        s.put(7, 0, 80);
        due.is(18, "at the left rim", s.ask(1, 3), 1);
        s.put(6, 0, 70);
        due.is(18, "the corner above is nearly as bright", s.ask(1, 3), 0);
        s.put(6, 0, 50);
        s.put(7, 7, 80);
        s.put(8, 0, 70);
        due.is(18, "at the right rim", s.ask(1, 3), 1);
    }
}
