/** The sentences of part 5 of the Terms and of promises 38 to 42 that name a boundary case. */
public final class ImagesSentencesTest {
    private static final int BAD = Due.BAD, NO = Due.NO, FULL = Due.FULL, NONE = Due.NONE;
    private static final int PART = 0, BAG = 1, MIRROR = 2, WHITE = 3, BUMP = 4, DEAD = 5;
    private static final int TONE = 0, EDGE = 2;

    public static void main(String[] args) {
        termsOfImages();
        termsOfAllBut();
        termsOfAgain();
        termsOfTicksTold();
        termsOfTicksFromTheImage();
        termsOfNobody();
        termsOfTextsThatCount();
        termsOfWas();
        termsBeyondTheLastTick();
        tell();
        tellFull();
        check();
        checkOfSixty();
        checkRightAhead();
        checkNoneWaits();
        checkBad();
        checkNo();
        keep();
        back();
        backNo();
        count();
        countOfKinds();
        countBad();
        Sentence.end("ImagesSentencesTest");
    }

    private static void tellAll(SkinShow s, int... numbers) {
        for (int v : numbers) {
            s.tell(v);
        }
    }

    /** A BAG of a 1 and SPAN 9 at PLACE 0, which goes to 9 by 1, and is SEEN on its way if the eye sees d. */
    private static SkinShow walking() {
        SkinShow s = new SkinShow();
        s.part(BAG, 0, 1, 9, 0);
        s.pull(0, 9);
        return s;
    }

    // ---- Terms, part 5

    private static void changeAll(SkinShow s) {
        s.part(BUMP, 30, 9, 9, 9);
        s.dies(0);
        s.dies(4);
        for (int nerve = 0; nerve <= 9; nerve++) {
            s.nerve(nerve, 0, 4);
            s.nerve(nerve, 1, 8);
        }
        for (int group = 0; group <= 5; group++) {
            s.pull(group, 7);
        }
        for (int what = 0; what <= 3; what++) {
            s.rule(what, 7);
        }
        s.tick(9);
        s.learn(3, 7);
        s.watch(0b111000);
        s.rest();
        s.tick(1);
    }

    private static void termsOfImages() {
        Sentence it = Sentence.terms(5, "AN IMAGE keeps all but LINES, numbers that wait, THE TAPE; all can become as it is");
        Twins.unchanged(it, "an IMAGE, all else, and back", s -> { }, s -> {
            s.keep();
            changeAll(s);
            s.back();
        }, s -> s.keep());
        Twins.unchanged(it, "an IMAGE, two TEXTS more, and back", s -> s.trim(0), s -> {
            s.keep();
            Due.text(s, 0, "pull 4 9+1");
            Due.text(s, 3, "eye 0");
            s.habit(0);
            s.back();
        }, s -> s.keep());
    }

    private static void termsOfAllBut() {
        Sentence it = Sentence.terms(5, "all but LINES, numbers that wait, THE TAPE;");
        SkinShow s = new SkinShow();
        Due.line(s, 0, 7, 8);
        Due.line(s, 1, 5);
        s.tell(1);
        Due.write(s, "eye 1");
        s.keep();
        s.put(0, 0, 77);
        s.line(1, -1, 0);
        s.line(2, 1, 24);
        s.tell(2);
        Due.write(s, "eye 12");
        s.back();
        it.is("what stands in a LINE", s.ground(0, 0), 77);
        it.is("a LINE that became MISSING", s.ground(0, 8), 50);
        it.is("LINES that are there", s.count(10), 2);
        it.is("numbers that wait", s.count(11), 2);
        it.is("bytes of THE TAPE", s.count(12), 6);
        it.is("what stands there", s.text(0), 0);
        it.is("what it gives", s.gives(6, 0, 0, 0, 0), 12);
    }

    private static void termsOfAgain() {
        Sentence it = Sentence.terms(5, "(again and again).");
        Twins.unchanged(it, "back, all else, and back, three times", s -> {
            s.keep();
        }, s -> {
            for (int i = 0; i < 3; i++) {
                changeAll(s);
                s.back();
            }
        }, s -> { });
        SkinShow s = new SkinShow();
        for (int i = 0; i < 5; i++) {
            it.is("an IMAGE", s.keep(), i);
            s.part(0, i, 0, 0, 0);
            s.tick(3);
            it.is("back", s.back(), i);
            it.is("at once again", s.back(), i);
            it.is("without the PART", s.count(0), 0);
            s.tick(1);
        }
    }

    private static void termsOfTicksTold() {
        Sentence it = Sentence.terms(5, "THE TICKS TOLD on GROUND 0: all SIZES together, and how many PLACES are SEEN, "
            + "behind each of n TICKS from THE IMAGE on");
        SkinShow s = walking();
        s.part(MIRROR, 47, 1, 5, 1);
        Due.text(s, 0, "eye d>3");
        s.keep();
        // the BAG 1, 2, 3, 4, 5; the MIRROR stays at 0 (its GROUP is pulled, too)
        tellAll(s, 1, 0, 2, 0, 3, 0, 4, 1, 5, 1);
        it.is("five TICKS", s.check(5), 0);
        Due.shade(s, 1, 0);
        tellAll(s, 1, 0, 2, 0, 3, 0, 4, 1, 5, 1);
        it.is("another GROUND does not count", s.check(5), 0);
        Due.line(s, 5, 40, 40, 40);
        tellAll(s, 1, 3, 2, 3, 3, 3, 4, 4, 5, 4);
        it.is("a LINE as it is at the call", s.check(5), 0);
        s.nerve(1, 0, 1);
        s.keep();
        tellAll(s, 3, 4, 6, 4);
        it.is("the MIRROR, too", s.check(2), 0);
        s.dies(1);
        s.keep();
        tellAll(s, 1, 3, 2, 3);
        it.is("a DEAD one's SIZE counts as it is: 0", s.check(2), 0);
    }

    private static void termsOfTicksFromTheImage() {
        Sentence it = Sentence.terms(5, "from THE IMAGE on");
        SkinShow s = walking();
        s.tick(2);
        s.keep();
        s.tick(4);
        s.pull(0, 0);
        s.rule(TONE, 0);
        s.part(WHITE, 9, 9, 9, 0);
        tellAll(s, 3, 0, 4, 0);
        it.is("not from what is now", s.check(2), 0);
        tellAll(s, 3, 0, 4, 0);
        it.is("again from there", s.check(2), 0);
        it.is("what is now stays", s.count(6), 6);
        s.rest();
        s.keep();
        tellAll(s, 9, 48);
        it.is("an IMAGE AT REST", s.check(1), 0);
    }

    private static void termsOfNobody() {
        Sentence it = Sentence.terms(5, "(nobody doing anything;");
        SkinShow s = walking();
        Due.text(s, 0, "pull 0 0");
        Due.text(s, 0, "eye d");
        s.keep();
        tellAll(s, 1, 1, 2, 1, 3, 1);
        it.is("THE HABIT is not put on", s.check(3), 0);
    }

    private static void termsOfTextsThatCount() {
        Sentence it = Sentence.terms(5, "SEEN by the TEXT that counts in the next TICK;");
        SkinShow s = new SkinShow();
        Due.text(s, 0, "eye 1");
        Due.text(s, 1, "eye 0");
        Due.text(s, 3, "eye 1");
        s.keep();
        tellAll(s, 0, 0, 0, 0, 0, 48, 0, 48);
        it.is("behind 0 in TICK 1, behind 2 in TICK 3", s.check(4), 0);
        Due.text(s, 2, "eye 1");
        tellAll(s, 0, 0, 0, 0, 0, 48);
        it.is("by THE IMAGE's TEXTS", s.check(3), 0);
        s.tick(2);
        s.keep();
        tellAll(s, 0, 48, 0, 48);
        it.is("from TICK 2 on", s.check(2), 0);
        SkinShow none = new SkinShow();
        Due.text(none, 2, "eye 1");
        Due.line(none, 0, 40);
        none.keep();
        tellAll(none, 0, 1, 0, 48);
        it.is("without one that counts by d, then by the TEXT", none.check(2), 0);
        SkinShow edge = new SkinShow();
        edge.part(WHITE, 20, 0, 9, 0);
        Due.text(edge, 0, "eye c");
        edge.rule(EDGE, 18);
        edge.keep();
        edge.rule(EDGE, 19);
        tellAll(edge, 9, 5);
        it.is("by THE IMAGE's EDGE", edge.check(1), 0);
    }

    private static void termsOfWas() {
        Sentence it = Sentence.terms(5, "behind each of n TICKS");
        SkinShow s = new SkinShow();
        s.part(WHITE, 20, 0, 9, 0);
        Due.text(s, 0, "eye m");
        s.rule(TONE, 60);
        s.keep();
        // WAS is 50 at first, but LIGHT ahead of the TICK is 60
        tellAll(s, 9, 1, 9, 0);
        it.is("WAS goes on with the TICKS", s.check(2), 0);
    }

    private static void termsBeyondTheLastTick() {
        Sentence it = Sentence.terms(5, "TICKS may go beyond 9999).");
        SkinShow s = walking();
        for (int i = 0; i < 166; i++) {
            s.tick(60);
        }
        s.tick(39);
        s.pull(0, 0);
        Due.text(s, 9999, "eye 1");
        it.is("an IMAGE of the last TICK", s.keep(), 9999);
        for (int size = 8; size >= -21; size--) {
            tellAll(s, Math.max(0, size), 48);
        }
        it.is("thirty beyond it", s.check(30), 0);
        it.is("the TICK stays", s.count(13), 9999);
    }

    // ---- Promises 38 to 42

    private static void tell() {
        Sentence it = Sentence.of(38, "One more number waits: how many.");
        SkinShow s = new SkinShow();
        int[] any = {0, 1, -1, Due.LEAST, Due.MOST, BAD};
        for (int i = 0; i < any.length; i++) {
            it.is("any int", s.tell(any[i]), i + 1);
        }
        it.is("they wait", s.count(11), 6);
    }

    private static void tellFull() {
        Sentence it = Sentence.of(38, "FULL: 60 wait.");
        SkinShow s = walking();
        s.keep();
        for (int tick = 1; tick <= 30; tick++) {
            it.is("one more", s.tell(Math.min(9, tick)), 2 * tick - 1);
            it.is("one more", s.tell(0), 2 * tick);
        }
        it.is("the sixty-first", s.tell(7), FULL);
        it.is("sixty", s.count(11), 60);
        it.is("as they were", s.check(30), 0);
        Twins.unchanged(it, "telling by FULL", twin -> {
            for (int i = 4; i <= 60; i++) {
                it.is("one more", twin.tell(i), i);
            }
        }, twin -> it.is("the sixty-first", twin.tell(0), FULL), twin -> { });
    }

    private static void check() {
        Sentence it = Sentence.of(39, "are THE TICKS TOLD of n TICKS (1 .. 30), two by two: 0;");
        SkinShow s = walking();
        s.rule(TONE, 59);
        s.keep();
        // LIGHT 59 on 50 is not SEEN by d above 9
        tellAll(s, 1, 0);
        it.is("the least n", s.check(1), 0);
        s.rule(TONE, 60);
        s.keep();
        tellAll(s, 1, 47, 2, 47);
        it.is("two", s.check(2), 0);
        tellAll(s, 47, 1, 47, 2);
        it.is("told the other way", s.check(2), 1);
    }

    private static void checkOfSixty() {
        Sentence it = Sentence.of(39, "of n TICKS (1 .. 30)");
        SkinShow s = walking();
        s.keep();
        for (int tick = 1; tick <= 30; tick++) {
            tellAll(s, Math.min(9, tick), 0);
        }
        it.is("the greatest n", s.check(30), 0);
        for (int tick = 1; tick <= 30; tick++) {
            tellAll(s, Math.min(9, tick), tick == 30 ? 1 : 0);
        }
        it.is("the last of sixty is not", s.check(30), 60);
        for (int tick = 1; tick <= 30; tick++) {
            tellAll(s, Math.min(9, tick), 0);
        }
        it.is("two too many", s.check(29), 59);
        for (int tick = 1; tick <= 29; tick++) {
            tellAll(s, Math.min(9, tick), 0);
        }
        it.is("two are missing", s.check(30), 59);
    }

    private static void checkRightAhead() {
        Sentence it = Sentence.of(39, "else 1 and how many stand right ahead of the first that is not (or is missing, or one "
            + "too many).");
        SkinShow s = walking();
        s.keep();
        int[][] told = {{}, {1}, {1, 0}, {1, 0, 2}, {1, 0, 2, 0, 3}, {1, 0, 2, 0, 3, 0}, {0, 0, 2, 0}, {1, 1, 2, 0},
            {1, 0, 1, 0}, {1, 0, 2, 1}, {1, 0, 2, 1, 3}, {0}, {Due.LEAST, 0, 2, 0}, {1, Due.MOST, 2, 0}, {1, 0, 2, BAD},
            {0, 1, 0, 2}, {2, 0, 1, 0}};
        int[] due = {1, 2, 3, 4, 5, 5, 1, 2, 3, 4, 4, 1, 1, 2, 4, 1, 1};
        for (int i = 0; i < told.length; i++) {
            tellAll(s, told[i]);
            it.is("row " + i + " of two TICKS", s.check(2), due[i]);
        }
        tellAll(s, 1, 0, 2, 0);
        it.is("right", s.check(2), 0);
        for (int many = 0; many <= 60; many++) {
            SkinShow row = walking();
            row.keep();
            for (int i = 0; i < many; i++) {
                row.tell(i % 2 == 0 ? Math.min(9, 1 + i / 2) : 0);
            }
            it.is(many + " right ones of ten TICKS", row.check(10), many == 20 ? 0 : 1 + Math.min(20, many));
        }
    }

    private static void checkNoneWaits() {
        Sentence it = Sentence.of(39, "The numbers that wait (none do then, whatever is answered)");
        SkinShow s = walking();
        tellAll(s, 1, 0);
        it.is("no IMAGE", s.check(1), NO);
        it.is("none waits behind NO", s.count(11), 0);
        s.keep();
        tellAll(s, 1, 0);
        it.is("n 0", s.check(0), BAD);
        it.is("none waits behind BAD", s.count(11), 0);
        it.is("they are missing", s.check(1), 1);
        tellAll(s, 1, 0);
        it.is("right", s.check(1), 0);
        it.is("none waits behind 0", s.count(11), 0);
        tellAll(s, 1, 5, 7);
        it.is("wrong", s.check(1), 2);
        it.is("none waits behind 2", s.count(11), 0);
        it.is("the first again", s.tell(1), 1);
        // else it changes nothing: the row that waits is told anew
        Twins.unchanged(it, "a check", twin -> {
            it.is("three right, one is missing", twin.check(2), 4);
            tellAll(twin, 22, 16, 26);
        });
    }

    private static void checkBad() {
        Sentence it = Sentence.of(39, "BAD; NO: there is no IMAGE.");
        Twins.unchanged(it, "a check by BAD", s -> {
            it.refusesOutside("n", 1, 30, s::check, BAD);
            tellAll(s, 22, 16, 26);
        });
        it.is("BAD ahead of NO", new SkinShow().check(0), BAD);
        it.is("BAD ahead of NO", new SkinShow().check(31), BAD);
    }

    private static void checkNo() {
        Sentence it = Sentence.of(39, "NO: there is no IMAGE.");
        SkinShow s = walking();
        it.is("the least n", s.check(1), NO);
        it.is("the greatest n", s.check(30), NO);
        it.is("back makes none", s.back(), NO);
        it.is("none still", s.check(1), NO);
        it.is("nothing moved", s.count(6), 0);
        s.keep();
        it.is("there is one", s.check(1), 1);
    }

    private static void keep() {
        Sentence it = Sentence.of(40, "AN IMAGE is kept: the TICK.");
        SkinShow s = new SkinShow();
        it.is("the first", s.keep(), 0);
        s.tick(5);
        it.is("another one", s.keep(), 5);
        s.tick(60);
        it.is("it is the last one that is kept", s.back(), 5);
        Twins.unchanged(it, "keeping and going back at once", twin -> twin.keep(), twin -> {
            twin.keep();
            twin.back();
        }, twin -> { });
    }

    private static void back() {
        Sentence it = Sentence.of(41, "All is as THE IMAGE: the TICK. NO: there is none.");
        SkinShow s = new SkinShow();
        s.part(WHITE, 0, 1, 9, 0);
        Due.text(s, 0, "eye 1");
        s.watch(1);
        s.learn(0, 1);
        s.keep();
        s.part(WHITE, 1, 1, 9, 0);
        s.tick(3);
        Due.text(s, 0, "eye !7+0*7777");
        s.watch(2);
        s.learn(0, 2);
        it.is("back", s.back(), 0);
        it.is("a PART at a PLACE that is free again", s.part(DEAD, 1, 5, 5, 5), 1);
        it.is("its SIZE", s.told(1, 5), 0);
        it.is("a TEXT of a number that is free again", Due.text(s, 0, "eye 3"), 1);
        it.is("what it gives", s.gives(6, 0, 0, 0, 0), 3);
        it.is("how many NUMBERS", s.of(1, 2), 1);
        it.is("a row of a number that is free again", s.watch(4), 1);
        it.is("by it", s.alike(2, 1), 0);
        it.is("not by the one that was", s.alike(1, 3), 1);
        it.is("a LEARNT GROUND of a number that is free again", s.learn(0, 1), 1);
        it.is("by it", s.apart(0), 1);
        it.is("back once more", s.back(), 0);
        it.is("one PART", s.count(0), 1);
        it.is("the other PLACE is free", s.show(1, 2), NONE);
        it.is("one TEXT", s.count(7), 1);
        it.is("what it gives", s.gives(6, 0, 0, 0, 0), 1);
    }

    private static void backNo() {
        Sentence it = Sentence.of(41, "NO: there is none.");
        SkinShow s = walking();
        s.tick(2);
        it.is("none", s.back(), NO);
        it.is("none still", s.back(), NO);
        it.is("all is as it was", s.count(6), 2);
        it.is("the TICK, too", s.count(13), 2);
        it.is("the PULL, too", s.pull(0, 9), 9);
        it.is("now there is one", s.keep(), 2);
        it.is("back", s.back(), 2);
    }

    private static void count() {
        Sentence it = Sentence.of(42, "6 all SIZES together, 7 TEXTS, 8 LEARNT GROUNDS, 9 rows WATCHED, 10 LINES that are "
            + "there, 11 numbers that wait, 12 bytes of THE TAPE, 13 the TICK.");
        SkinShow s = new SkinShow();
        for (int what = 0; what <= 13; what++) {
            it.is("of a new one, " + what, s.count(what), 0);
        }
        for (int line = 0; line < 24; line++) {
            s.line(line, line % 2, 0);
        }
        for (int i = 0; i < 14; i++) {
            Due.text(s, 0, "eye 1");
        }
        for (int i = 0; i < 8; i++) {
            s.learn(0, 0);
            s.feed(0, 0, 0);
        }
        for (int i = 0; i < 12; i++) {
            s.watch(0);
        }
        for (int i = 0; i < 60; i++) {
            s.tell(0);
        }
        for (int place = 0; place < 48; place++) {
            s.part(WHITE, place, 0, 9, 0);
        }
        s.tick(1);
        s.dies(0);
        int[] full = {48, 0, 0, 47, 0, 1, 432, 14, 8, 12, 24, 60, 96, 1};
        for (int what = 0; what <= 13; what++) {
            it.is("of a full one, " + what, s.count(what), full[what]);
        }
    }

    private static void countOfKinds() {
        Sentence it = Sentence.of(42, "How many: 0 PARTS, 1 .. 5 PARTS of KINDS 1 .. 5 (not under it),");
        SkinShow s = new SkinShow();
        int place = 0;
        for (int kind = PART; kind <= DEAD; kind++) {
            for (int i = 0; i < 6 - kind; i++) {
                s.part(kind, place++, 0, 0, 0);
            }
        }
        int[] want = {21, 5, 4, 3, 2, 1};
        for (int what = 0; what <= 5; what++) {
            it.is("what " + what, s.count(what), want[what]);
        }
        for (int part = 0; part < 21; part++) {
            s.dies(part);
        }
        int[] dead = {21, 0, 0, 0, 0, 21};
        for (int what = 0; what <= 5; what++) {
            it.is("what " + what + " of the dead", s.count(what), dead[what]);
        }
    }

    private static void countBad() {
        Sentence it = Sentence.of(42, "BAD.");
        Twins.unchanged(it, "count by BAD", s -> it.refusesOutside("what", 0, 13, s::count, BAD));
    }
}
