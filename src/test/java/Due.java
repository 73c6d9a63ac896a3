/** Counts the answers that are not the ones that are due, and helps to put texts on the tape. */
public final class Due {
    static final int BAD = -1000000001, NO = -1000000002, FULL = -1000000003, NONE = -1000000005;
    static final int NOTHING = -1000000011, KIND = -1000000012, INDEX = -1000000013, SIZE = -1000000014;
    static final int LEAST = Integer.MIN_VALUE, MOST = Integer.MAX_VALUE;

    private final String name;
    private int asked = 0;
    private int wrong = 0;

    Due(String name) {
        this.name = name;
    }

    void is(int promise, String what, int got, int want) {
        asked++;
        if (got != want) {
            wrong++;
            System.out.println(name + ", promise " + promise + ": " + what + " answered " + got + ", due is " + want);
        }
    }

    void end() {
        System.out.println(name + ": " + asked + " answers, " + wrong + " wrong");
        if (wrong != 0) {
            System.exit(1);
        }
    }

    /** The text's bytes come to an empty tape, and no others stay there. */
    static void write(SkinShow show, String text) {
        show.trim(0);
        for (int at = 0; at < text.length(); at += 12) {
            int[] three = new int[3];
            for (int i = 0; i < 12; i++) {
                int sign = at + i < text.length() ? text.charAt(at + i) : ' ';
                three[i / 4] = three[i / 4] << 8 | sign;
            }
            show.feed(three[0], three[1], three[2]);
        }
        show.trim(text.length());
    }

    static int text(SkinShow show, int tick, String text) {
        write(show, text);
        return show.text(tick);
    }

    /** A line of bytes from its first place on. */
    static void line(SkinShow show, int line, int... numbers) {
        show.line(line, 0, numbers.length);
        for (int i = 0; i < numbers.length; i++) {
            show.put(line, i, numbers[i]);
        }
    }

    /** A whole ground of one shade. */
    static void shade(SkinShow show, int ground, int shade) {
        for (int y = 0; y < 6; y++) {
            line(show, 6 * ground + y, shade, shade, shade, shade, shade, shade, shade, shade);
        }
    }
}
