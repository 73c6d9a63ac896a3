import java.util.Arrays;

/**
 * Two objects that were led alike, of which one is asked more: what it refuses, or only tells, must not show in
 * anything that can be asked of it later on. All is read in four rounds, as no object may be called more than 512 times.
 */
final class Twins {
    interface Act {
        void on(SkinShow s);
    }

    private static final int ROUNDS = 4;

    private Twins() {
    }

    /** Holds a sentence to it that an act changes nothing. */
    static void unchanged(Sentence it, String what, Act act) {
        unchanged(it, what, s -> { }, act, s -> { });
    }

    /** The same behind an act ahead that both go through; the other twin goes through what may change instead. */
    static void unchanged(Sentence it, String what, Act ahead, Act act, Act instead) {
        for (int round = 0; round < ROUNDS; round++) {
            SkinShow one = scene();
            SkinShow other = scene();
            ahead.on(one);
            ahead.on(other);
            act.on(one);
            instead.on(other);
            int[] got = readings(one, round);
            int[] want = readings(other, round);
            for (int i = 0; i < want.length; i++) {
                it.is(what + " and then reading " + i + " of round " + round, got[i], want[i]);
            }
        }
    }

    /** A skin on its way, with something of everything, and an image that is not as all is now. */
    static SkinShow scene() {
        SkinShow s = new SkinShow();
        int[] places = {0, 7, 9, 17, 40, 47};
        for (int kind = 0; kind <= 5; kind++) {
            s.part(kind, places[kind], 3 + kind, 9 - kind / 2, kind);
            s.nerve(kind, 0, kind % 3);
        }
        s.nerve(1, 1, 7);
        s.pull(0, 6);
        s.pull(1, 4);
        s.rule(1, 2);
        s.rule(2, 6);
        Due.line(s, 0, 41, 50, 63, 50, 50, 50, 50, 20);
        s.line(8, 1, 24);
        s.put(8, 1, 70000);
        Due.text(s, 0, "pull 1 l/10+e");
        Due.text(s, 1, "eye d>4|m|c");
        s.learn(0, 1);
        s.watch(0b10011);
        s.tick(2);
        s.keep();
        s.part(1, 20, 8, 8, 1);
        s.pull(2, 9);
        s.rule(0, 55);
        Due.text(s, 2, "eye d>9&g<60");
        s.learn(1, 2);
        s.watch(0b101);
        s.dies(3);
        s.tick(1);
        Due.write(s, "pull 2 r*3+1");
        // the first three that check(2) asks for: a change in any of them shows
        s.tell(22);
        s.tell(16);
        s.tell(26);
        return s;
    }

    private static int[] readings(SkinShow s, int round) {
        Row row = new Row();
        if (round == 0) {
            readSkin(s, row);
        } else if (round == 1) {
            readRest(s, row);
        } else if (round == 2) {
            s.back();
            readSkin(s, row);
        } else {
            s.back();
            readRest(s, row);
        }
        return Arrays.copyOf(row.all, row.many);
    }

    private static final class Row {
        private final int[] all = new int[512];
        private int many = 0;

        private void add(int v) {
            all[many++] = v;
        }
    }

    private static void readSkin(SkinShow s, Row row) {
        for (int what = 0; what <= 13; what++) {
            row.add(s.count(what));
        }
        for (int part = 0; part < 8; part++) {
            for (int what = 0; what <= 8; what++) {
                row.add(s.told(part, what));
            }
        }
        for (int place = 0; place < 48; place++) {
            for (int what = 0; what <= 2; what++) {
                row.add(s.show(place, what));
            }
        }
        // what was it? asked last, as it becomes another one
        for (int nerve = 0; nerve < 10; nerve++) {
            row.add(s.nerve(nerve, 0, 0));
            row.add(s.nerve(nerve, 1, 1));
        }
        for (int group = 0; group < 6; group++) {
            row.add(s.pull(group, 0));
        }
        for (int what = 0; what < 4; what++) {
            row.add(s.rule(what, 1));
        }
    }

    private static void readRest(SkinShow s, Row row) {
        for (int text = 0; text < 4; text++) {
            for (int what = 0; what <= 2; what++) {
                row.add(s.of(text, what));
            }
        }
        for (int group = 0; group <= 6; group++) {
            row.add(s.why(group));
            row.add(s.gives(group, 1, 20, 300, 4000));
        }
        for (int set = 0; set < 16; set++) {
            row.add(s.apart(set));
        }
        for (int part = 1; part <= 28; part++) {
            row.add(s.alike(0, part));
        }
        for (int what = 0; what <= 4; what++) {
            row.add(s.beast(0, what));
        }
        for (int at = -1; at < 3; at++) {
            row.add(s.kinds(at));
        }
        row.add(s.parts());
        // what stands in the lines, waits, and is on the tape: asked last, as it is gone then
        for (int line = 0; line < 24; line++) {
            int places = line == 8 ? 25 : line == 0 ? 9 : 1;
            for (int place = 0; place < places; place++) {
                row.add(s.put(line, place, 0));
            }
        }
        row.add(s.count(11));
        row.add(s.check(2));
        row.add(s.count(12));
        row.add(s.text(0));
        row.add(s.gives(2, 1, 20, 300, 4000));
        for (int group = 0; group < 6; group++) {
            row.add(s.habit(0));
            row.add(s.pull(group, 0));
        }
    }
}
