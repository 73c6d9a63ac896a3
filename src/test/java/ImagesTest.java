/** Promises 38 to 42: rows that wait, images, counts. */
public final class ImagesTest {
    private static final int BAD = Due.BAD, NO = Due.NO, FULL = Due.FULL, NONE = Due.NONE;
    private static final int BAG = 1, MIRROR = 2, WHITE = 3, BUMP = 4, DEAD = 5;
    private static final Due due = new Due("ImagesTest");

    public static void main(String[] args) {
        tell();
        checkRefuses();
        check();
        checkOfMany();
        checkByTexts();
        checkBeyondTheLastTick();
        checkFromTheImage();
        keepAndBack();
        backTakesAll();
        backLeaves();
        goesOnBehindBack();
        count();
        due.end();
    }

    private static void tellAll(SkinShow s, int... numbers) {
        for (int v : numbers) {
            s.tell(v);
        }
    }

    private static void tell() {
        SkinShow s = new SkinShow();
        for (int i = 1; i <= 60; i++) {
            due.is(38, "one more", s.tell(-i), i);
        }
        due.is(38, "60 wait", s.tell(0), FULL);
        due.is(38, "they still wait", s.count(11), 60);
        s.keep();
        due.is(38, "30 TICKS", s.check(30), 1);
        due.is(38, "none waits", s.count(11), 0);
        due.is(38, "from the first again", s.tell(Due.LEAST), 1);
    }

    private static void checkRefuses() {
        SkinShow s = new SkinShow();
        int[] n = {0, 31, -1, Due.LEAST, Due.MOST};
        for (int i : n) {
            s.tell(0);
            due.is(39, "n " + i, s.check(i), BAD);
            due.is(39, "none waits", s.count(11), 0);
        }
        s.tell(0);
        due.is(39, "no IMAGE", s.check(1), NO);
        due.is(39, "none waits", s.count(11), 0);
        s.keep();
        due.is(39, "nothing told", s.check(1), 1);
        tellAll(s, 0, 0);
        due.is(39, "BAD with an IMAGE", s.check(31), BAD);
        due.is(39, "they are gone", s.check(1), 1);
    }

    private static void check() {
        SkinShow s = new SkinShow();
        s.part(BAG, 0, 9, 9, 0);
        s.part(MIRROR, 1, 0, 5, 0);
        s.pull(0, 9);
        s.keep();
        // SIZES 2, 4, 6, 8, 9 of the BAG; the MIRROR stays at 0
        tellAll(s, 2, 1, 4, 1, 6, 1, 8, 1, 9, 1, 9, 1);
        due.is(39, "all right", s.check(6), 0);
        tellAll(s, 2, 1, 4, 1);
        due.is(39, "one too many", s.check(1), 3);
        tellAll(s, 2, 1, 4);
        due.is(39, "one is missing", s.check(2), 4);
        tellAll(s, 2, 1, 4);
        due.is(39, "one too many of one", s.check(1), 3);
        tellAll(s, 3, 1, 4, 1);
        due.is(39, "the first is wrong", s.check(2), 1);
        tellAll(s, 2, 2, 4, 1);
        due.is(39, "the second is wrong", s.check(2), 2);
        tellAll(s, 2, 1, 4, 0);
        due.is(39, "the fourth is wrong", s.check(2), 4);
        tellAll(s, 2, 1, 5, 1, 6, 1);
        due.is(39, "the third is wrong", s.check(3), 3);
        tellAll(s, 2, 1);
        due.is(39, "still right", s.check(1), 0);
        due.is(39, "nothing moved", s.told(0, 5), 0);
        due.is(39, "the TICK stays", s.count(13), 0);
    }

    private static void checkOfMany() {
        SkinShow s = new SkinShow();
        s.part(BAG, 0, 4, 9, 0);
        s.pull(0, 9);
        s.keep();
        for (int tick = 1; tick <= 30; tick++) {
            // d is 4 a SIZE: above 9 from 3 on
            tellAll(s, Math.min(9, tick), tick >= 3 ? 1 : 0);
        }
        due.is(39, "30 TICKS", s.check(30), 0);
        for (int tick = 1; tick <= 29; tick++) {
            tellAll(s, Math.min(9, tick), tick >= 3 ? 1 : 0);
        }
        tellAll(s, 9, 0);
        due.is(39, "the last one is wrong", s.check(30), 60);
    }

    private static void checkByTexts() {
        SkinShow s = new SkinShow();
        s.part(BAG, 0, 4, 9, 0);
        s.pull(0, 9);
        Due.text(s, 1, "eye m");
        Due.text(s, 3, "eye 1");
        s.keep();
        tellAll(s, 1, 1, 2, 1, 3, 48);
        due.is(39, "by the TEXT of the next TICK", s.check(3), 0);
        Due.text(s, 0, "eye 0");
        Due.text(s, 2, "eye 0");
        tellAll(s, 1, 1, 2, 1, 3, 48);
        due.is(39, "by the TEXTS of THE IMAGE", s.check(3), 0);
        s.line(0, 0, 8);
        Due.text(s, 3, "eye g=0");
        s.keep();
        tellAll(s, 1, 1, 2, 0, 3, 8);
        due.is(39, "the LINES are as now", s.check(3), 0);
        s.line(0, -1, 0);
        tellAll(s, 1, 1, 2, 0, 3, 0);
        due.is(39, "and now", s.check(3), 0);
        s.line(6, 0, 8);
        tellAll(s, 1, 1, 2, 0, 3, 0);
        due.is(39, "GROUND 0 alone", s.check(3), 0);
    }

    private static void checkBeyondTheLastTick() {
        SkinShow s = new SkinShow();
        for (int i = 0; i < 166; i++) {
            s.tick(60);
        }
        s.tick(39);
        s.part(WHITE, 0, 9, 9, 0);
        s.pull(0, 9);
        Due.text(s, 9999, "eye d>26&!m");
        due.is(40, "at the last TICK", s.keep(), 9999);
        tellAll(s, 9, 0, 9, 1);
        due.is(39, "beyond 9999", s.check(2), 0);
        due.is(39, "the TICK stays", s.count(13), 9999);
        due.is(41, "back at the last TICK", s.back(), 9999);
    }

    private static void checkFromTheImage() {
        SkinShow s = new SkinShow();
        s.part(BAG, 0, 9, 9, 0);
        s.pull(0, 3);
        s.keep();
        s.pull(0, 9);
        s.rule(0, 0);
        s.rule(2, 1);
        s.part(BAG, 1, 9, 9, 0);
        s.tick(4);
        tellAll(s, 2, 1, 3, 1);
        due.is(39, "as in THE IMAGE", s.check(2), 0);
        s.rest();
        due.is(39, "the skin is as it is now", s.count(6), 18);
    }

    private static void keepAndBack() {
        SkinShow s = new SkinShow();
        due.is(41, "no IMAGE", s.back(), NO);
        due.is(40, "keep", s.keep(), 0);
        s.tick(7);
        due.is(41, "back", s.back(), 0);
        due.is(41, "the TICK", s.count(13), 0);
        s.tick(9);
        due.is(41, "again", s.back(), 0);
        s.tick(5);
        due.is(40, "another one", s.keep(), 5);
        s.tick(1);
        due.is(41, "back to it", s.back(), 5);
        due.is(41, "at once again", s.back(), 5);
    }

    private static void backTakesAll() {
        SkinShow s = new SkinShow();
        s.part(BUMP, 9, 3, 9, 4);
        s.nerve(4, 0, 3);
        s.nerve(4, 1, 7);
        s.pull(3, 6);
        s.rule(0, 60);
        s.rule(1, 2);
        s.rule(2, 30);
        s.rule(3, 9);
        Due.text(s, 0, "pull 3 7");
        s.learn(0, 1);
        s.watch(1);
        s.tick(2);
        s.keep();
        s.part(BAG, 10, 3, 9, 4);
        s.dies(0);
        s.nerve(4, 0, 2);
        s.nerve(4, 1, 2);
        s.pull(3, 1);
        for (int what = 0; what < 4; what++) {
            s.rule(what, 5);
        }
        Due.text(s, 0, "pull 3 8");
        s.learn(0, 2);
        s.watch(0);
        s.tick(3);
        due.is(41, "back", s.back(), 2);
        due.is(41, "KIND", s.told(0, 0), BUMP);
        due.is(41, "SIZE", s.told(0, 5), 2);
        due.is(41, "PARTS", s.count(0), 1);
        due.is(41, "the PLACE is free", s.show(10, 2), NONE);
        due.is(41, "LIGHT", s.show(9, 0), 66);
        due.is(41, "WAS", s.show(9, 1), 63);
        due.is(41, "GROUP", s.nerve(4, 0, 3), 3);
        due.is(41, "WEIGHT", s.nerve(4, 1, 7), 7);
        due.is(41, "PULL", s.pull(3, 6), 6);
        int[] rules = {60, 2, 30, 9};
        for (int what = 0; what < 4; what++) {
            due.is(41, "rule " + what, s.rule(what, rules[what]), rules[what]);
        }
        due.is(41, "TEXTS", s.count(7), 1);
        due.is(41, "the TEXT that counts", s.gives(3, 0, 0, 0, 0), 7);
        due.is(41, "LEARNT GROUNDS", s.count(8), 1);
        due.is(41, "APART again", s.fewest(), 0);
        due.is(41, "rows WATCHED", s.count(9), 1);
        due.is(41, "a row that is no more", s.kinds(1), BAD);
    }

    private static void backLeaves() {
        SkinShow s = new SkinShow();
        s.line(0, 0, 4);
        s.tell(1);
        s.feed(0, 0, 0);
        s.keep();
        s.put(0, 0, 9);
        s.line(1, 0, 4);
        s.tell(2);
        s.feed(0, 0, 0);
        s.back();
        due.is(41, "LINES stay", s.count(10), 2);
        due.is(41, "what stands in them, too", s.ground(0, 0), 9);
        due.is(41, "numbers that wait stay", s.count(11), 2);
        due.is(41, "THE TAPE stays", s.count(12), 24);
    }

    private static void goesOnBehindBack() {
        SkinShow s = new SkinShow();
        s.part(WHITE, 0, 1, 9, 0);
        Due.text(s, 0, "eye 1");
        s.watch(1);
        s.learn(0, 1);
        s.keep();
        s.part(WHITE, 1, 1, 9, 0);
        s.part(WHITE, 2, 1, 9, 0);
        s.tick(3);
        Due.text(s, 0, "eye 2");
        s.watch(2);
        s.learn(0, 2);
        s.back();
        due.is(41, "a PART at a PLACE that is free again", s.part(DEAD, 2, 5, 5, 5), 1);
        due.is(41, "its SIZE is 0", s.told(1, 5), 0);
        due.is(41, "another TEXT", Due.text(s, 0, "eye 3"), 1);
        due.is(41, "it counts", s.gives(6, 0, 0, 0, 0), 3);
        due.is(41, "another row", s.watch(4), 1);
        due.is(41, "a LEARNT GROUND", s.learn(1, 1), 1);
        due.is(41, "none is needed", s.fewest(), 0);
        due.is(41, "back once more", s.back(), 0);
        due.is(41, "the TEXT of THE IMAGE counts", s.gives(6, 0, 0, 0, 0), 1);
        due.is(41, "one PART", s.count(0), 1);
        due.is(41, "the row of THE IMAGE", s.alike(0, 1), 0);
    }

    private static void count() {
        SkinShow s = new SkinShow();
        due.is(42, "what -1", s.count(-1), BAD);
        due.is(42, "what 14", s.count(14), BAD);
        due.is(42, "far off", s.count(Due.LEAST), BAD);
        int place = 0;
        for (int kind = 0; kind <= 5; kind++) {
            for (int i = 0; i <= kind; i++) {
                s.part(kind, place++, 9, 5, 0);
            }
        }
        s.pull(0, 2);
        s.tick(1);
        Due.text(s, 0, "eye 1");
        Due.text(s, 0, "eye 1");
        s.learn(0, 0);
        s.learn(0, 0);
        s.learn(0, 0);
        s.watch(0);
        s.line(3, 0, 0);
        s.line(4, 1, 24);
        tellAll(s, 1, 2, 3);
        s.feed(0, 0, 0);
        // SIZES: PART 1, BAGS 2 each, MIRRORS 2 each, WHITES 5 each, BUMPS 1 each
        int[] want = {21, 2, 3, 4, 5, 6, 1 + 4 + 6 + 20 + 5, 2, 3, 1, 2, 3, 12, 1};
        for (int what = 0; what <= 13; what++) {
            due.is(42, "count(" + what + ")", s.count(what), want[what]);
        }
    }
}
