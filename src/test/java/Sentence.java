import java.io.IOException;
import java.io.UncheckedIOException;
import java.nio.file.Files;
import java.nio.file.Path;
import java.util.function.IntUnaryOperator;

/**
 * One sentence of the document that the program is held to. Its words have to stand under the promise's heading, or in
 * the part of the Terms, that a test names, so no test can hold the program to words that the document does not say.
 */
final class Sentence {
    private static final String DOC = read();
    private static int sentences = 0, asked = 0, wrong = 0;

    private final String where, words;

    private Sentence(String where, String text, String words) {
        this.where = where;
        this.words = words;
        sentences++;
        if (!text.contains(words)) {
            wrong++;
            System.out.println(where + " of the document does not say: " + words);
        }
    }

    /** Words that stand under the heading of a promise. */
    static Sentence of(int promise, String words) {
        return new Sentence("promise " + promise, promise(promise), words);
    }

    /** Words that stand in a part of the Terms: 1 to 5, or 0 for what stands ahead of these. */
    static Sentence terms(int part, String words) {
        return new Sentence("Terms, part " + part, part(part), words);
    }

    void is(String what, int got, int want) {
        asked++;
        if (got != want) {
            wrong++;
            System.out.println(where + ", \"" + words + "\": " + what + " answered " + got + ", due is " + want);
        }
    }

    /** The number below the least, the one above the most, and the two farthest ones are refused. */
    void refusesOutside(String what, int least, int most, IntUnaryOperator call, int refusal) {
        is(what + " " + (least - 1) + ", one below the least", call.applyAsInt(least - 1), refusal);
        is(what + " " + (most + 1) + ", one above the most", call.applyAsInt(most + 1), refusal);
        is(what + ", the least int", call.applyAsInt(Integer.MIN_VALUE), refusal);
        is(what + ", the greatest int", call.applyAsInt(Integer.MAX_VALUE), refusal);
    }

    /** The least and the greatest number are not refused. */
    void takes(String what, int least, int most, IntUnaryOperator call) {
        is(what + " " + least + ", the least", refused(call.applyAsInt(least)) ? 1 : 0, 0);
        is(what + " " + most + ", the most", refused(call.applyAsInt(most)) ? 1 : 0, 0);
    }

    private static boolean refused(int answer) {
        return answer <= Due.BAD && answer >= Due.SIZE;
    }

    static void end(String name) {
        System.out.println(name + ": " + sentences + " sentences, " + asked + " answers, " + wrong + " wrong");
        if (wrong != 0) {
            System.exit(1);
        }
    }

    // ---- the document

    static String promise(int promise) {
        String text = between("## Promise " + promise + ": ", "\n## ");
        int call = text.indexOf("`: ");
        return squeezed(call < 0 ? text : text.substring(call + 3));
    }

    static String part(int part) {
        if (part == 0) {
            return squeezed(between("## Terms\n", "======== 1 "));
        }
        String end = part < 5 ? "======== " + (part + 1) + " " : "\nAhead of the calls ";
        return squeezed(between("======== " + part + " ", end).replace("```text", " ").replace("```", " "));
    }

    /** Where lines end does not count. */
    private static String squeezed(String text) {
        return text.replaceAll("\\s+", " ").trim();
    }

    private static String between(String from, String to) {
        int start = DOC.indexOf(from);
        int end = start < 0 ? -1 : DOC.indexOf(to, start + from.length());
        if (end < 0) {
            throw new IllegalStateException("the document has no " + from + " up to " + to);
        }
        return DOC.substring(start + from.length(), end);
    }

    private static String read() {
        try {
            return Files.readString(Path.of("../shared/DOC.md"));
        } catch (IOException e) {
            throw new UncheckedIOException(e);
        }
    }
}
