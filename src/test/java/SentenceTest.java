import java.io.IOException;
import java.nio.file.Files;
import java.nio.file.Path;
import java.util.ArrayList;
import java.util.List;
import java.util.regex.Matcher;
import java.util.regex.Pattern;
import java.util.stream.Stream;

/**
 * The tests of edges name the document's words that they test. Of each promise, and of each line of the terms,
 * there must be words that stand there and nowhere else.
 */
public final class SentenceTest {
    private static final Path DOCUMENT = Path.of("../shared/DOC.md");
    private static final Path TESTS = Path.of("src/test/java");
    private static final Pattern QUOTE = Pattern.compile("\\b(?:sentence|at)\\(((?:\"(?:[^\"\\\\]|\\\\.)*\"|\\s|\\+)+)[,)]");

    private static int wrong = 0;

    public static void main(String[] args) throws IOException {
        if (!Files.exists(DOCUMENT)) {
            System.out.println("SentenceTest: there is no document here");
            return;
        }
        List<String> parts = parts(Files.readString(DOCUMENT));
        List<String> quotes = quotes();
        int promises = 0;
        for (String part : parts) {
            promises += part.contains("`: ") ? 1 : 0;
            boolean tested = false;
            for (String quote : quotes) {
                tested |= part.contains(quote) && alone(parts, quote);
            }
            must(tested, "a test of: " + part);
        }
        must(promises == 51, "51 promises in the document, there are " + promises);
        System.out.println("SentenceTest: " + quotes.size() + " quotes of " + parts.size() + " parts, " + wrong + " parts without a test");
        if (wrong != 0) {
            System.exit(1);
        }
    }

    /** The lines of the terms and of the promises. */
    private static List<String> parts(String document) {
        List<String> parts = new ArrayList<>();
        boolean terms = false;
        boolean promise = false;
        for (String line : document.split("\n")) {
            if (line.startsWith("## ")) {
                terms = line.equals("## Terms");
                promise = line.startsWith("## Promise");
            } else if (line.startsWith("The constants:")) {
                terms = false;
            } else if ((terms || promise) && !line.isBlank() && !line.startsWith("```")) {
                parts.add(plain(line));
            }
        }
        return parts;
    }

    private static List<String> quotes() throws IOException {
        List<String> quotes = new ArrayList<>();
        try (Stream<Path> files = Files.list(TESTS)) {
            for (Path file : files.filter(path -> path.toString().endsWith("Test.java")).toList()) {
                Matcher matcher = QUOTE.matcher(Files.readString(file));
                while (matcher.find()) {
                    String joined = matcher.group(1).trim().replaceAll("\"\\s*\\+\\s*\"", "");
                    quotes.add(plain(joined.substring(1, joined.length() - 1)));
                }
            }
        }
        return quotes;
    }

    private static boolean alone(List<String> parts, String quote) {
        return parts.stream().filter(part -> part.contains(quote)).count() == 1;
    }

    private static String plain(String text) {
        return text.trim().replaceAll("\\s+", " ");
    }

    private static void must(boolean so, String what) {
        if (!so) {
            wrong++;
            System.out.println("there is no " + what);
        }
    }
}
