import java.io.IOException;
import java.nio.file.Files;
import java.nio.file.Path;
import java.util.ArrayList;
import java.util.List;
import java.util.TreeMap;
import java.util.regex.Matcher;
import java.util.regex.Pattern;
import java.util.stream.Stream;

/**
 * Compares the sentences that the boundary tests quote with the document: each quote stands under its promise,
 * and each error and each remark in parentheses that a promise names is quoted by a test.
 */
public final class QuotesTest {
    private static final Due DUE = new Due("QuotesTest");
    private static final Path TESTS = Path.of("src/test/java");
    private static final Path DOCUMENT = Path.of("../shared/DOC.md");
    private static final int PROMISES = 24;

    private static final Pattern QUOTE =
        Pattern.compile("B\\.sentence\\((Bounds\\.TERMS|\\d+), \"((?:[^\"\\\\]|\\\\.)*)\"\\)");
    private static final Pattern ERROR =
        Pattern.compile("(?:NO_SUCH|BAD_VALUE|BAD_TEXT|TOO_MANY|NOT_POSSIBLE) if [^;.(\n]*[^;.(\n ]");
    private static final Pattern REMARK = Pattern.compile("\\([^()\n]+\\)");

    public static void main(String[] args) throws IOException {
        TreeMap<Integer, List<String>> quotes = quotes();
        TreeMap<Integer, String> sections = sections(Files.readString(DOCUMENT));
        DUE.is("sections of the document", sections.size(), PROMISES + 1);
        for (int promise = 0; promise <= PROMISES; promise++) {
            String section = sections.getOrDefault(promise, "");
            List<String> quoted = quotes.getOrDefault(promise, List.of());
            DUE.isTrue("a test names the promise " + promise, !quoted.isEmpty());
            for (String quote : quoted) {
                DUE.isTrue("the promise " + promise + " says \"" + quote + "\"", section.contains(quote));
            }
            if (promise > 0) {
                areQuoted(promise, ERROR, section, quoted);
                areQuoted(promise, REMARK, section, quoted);
            }
        }
        DUE.end();
    }

    private static void areQuoted(int promise, Pattern pattern, String section, List<String> quoted) {
        Matcher matcher = pattern.matcher(section);
        while (matcher.find()) {
            String words = matcher.group();
            DUE.isTrue("a test quotes \"" + words + "\" of the promise " + promise,
                quoted.stream().anyMatch(quote -> quote.contains(words)));
        }
    }

    private static TreeMap<Integer, List<String>> quotes() throws IOException {
        TreeMap<Integer, List<String>> quotes = new TreeMap<>();
        try (Stream<Path> files = Files.list(TESTS)) {
            for (Path file : files.filter(f -> f.getFileName().toString().endsWith("Test.java")).sorted().toList()) {
                Matcher matcher = QUOTE.matcher(Files.readString(file));
                while (matcher.find()) {
                    int promise = matcher.group(1).equals("Bounds.TERMS") ? 0 : Integer.parseInt(matcher.group(1));
                    quotes.computeIfAbsent(promise, p -> new ArrayList<>()).add(matcher.group(2).replace("\\\"", "\""));
                }
            }
        }
        return quotes;
    }

    /** The document's text by promises, without the signatures; what stands under "Terms" is the section 0. */
    private static TreeMap<Integer, String> sections(String document) {
        TreeMap<Integer, String> sections = new TreeMap<>();
        for (String section : document.split("(?m)^## ")) {
            Matcher heading = Pattern.compile("Promise (\\d+):").matcher(section);
            if (section.startsWith("Terms")) {
                sections.put(0, section);
            } else if (heading.lookingAt()) {
                sections.put(Integer.parseInt(heading.group(1)), section.replaceAll("(?m)^`[^`]*`: ", ""));
            }
        }
        return sections;
    }
}
