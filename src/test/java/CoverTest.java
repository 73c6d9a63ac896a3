import java.io.IOException;
import java.nio.file.Files;
import java.nio.file.Path;
import java.util.ArrayList;
import java.util.List;
import java.util.regex.Matcher;
import java.util.regex.Pattern;
import java.util.stream.Stream;

/** Each word of the Terms and of promises 1 to 42 stands in a sentence that one of the tests named ..SentencesTest holds. */
public final class CoverTest {
    private static final Path TESTS = Path.of("src/test/java");
    private static final Pattern QUOTE =
        Pattern.compile("Sentence\\.(of|terms)\\((\\d+), ((?:\"(?:[^\"\\\\]|\\\\.)*\"\\s*\\+?\\s*)+)\\)");
    private static int wrong = 0;

    private record Quote(boolean ofPromise, int number, String words) {
    }

    public static void main(String[] args) throws IOException {
        List<Quote> quotes = new ArrayList<>();
        try (Stream<Path> files = Files.list(TESTS)) {
            for (Path file : files.filter(f -> f.toString().endsWith("SentencesTest.java")).sorted().toList()) {
                addQuotes(Files.readString(file), quotes);
            }
        }
        for (int promise = 1; promise <= 42; promise++) {
            cover("promise " + promise, Sentence.promise(promise), quotes, true, promise);
        }
        for (int part = 0; part <= 5; part++) {
            cover("Terms, part " + part, Sentence.part(part), quotes, false, part);
        }
        System.out.println("CoverTest: " + quotes.size() + " sentences held, " + wrong + " words not in one");
        if (wrong != 0) {
            System.exit(1);
        }
    }

    private static void addQuotes(String source, List<Quote> quotes) {
        Matcher m = QUOTE.matcher(source);
        while (m.find()) {
            String words = m.group(3).trim().replaceAll("\"\\s*\\+\\s*\"", "");
            quotes.add(new Quote(m.group(1).equals("of"), Integer.parseInt(m.group(2)), words.substring(1, words.length() - 1)));
        }
    }

    private static void cover(String where, String text, List<Quote> quotes, boolean ofPromise, int number) {
        boolean[] held = new boolean[text.length()];
        for (Quote quote : quotes) {
            if (quote.ofPromise != ofPromise || quote.number != number) {
                continue;
            }
            for (int at = text.indexOf(quote.words); at >= 0; at = text.indexOf(quote.words, at + 1)) {
                java.util.Arrays.fill(held, at, at + quote.words.length(), true);
            }
        }
        Matcher word = Pattern.compile("[A-Za-z0-9]+").matcher(text);
        while (word.find()) {
            if (!held[word.start()] || !held[word.end() - 1]) {
                wrong++;
                int from = Math.max(0, word.start() - 20);
                System.out.println(where + ": no sentence has \"" + word.group() + "\" in: .."
                    + text.substring(from, Math.min(text.length(), word.end() + 20)) + "..");
            }
        }
    }
}
