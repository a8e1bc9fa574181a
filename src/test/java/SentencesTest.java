import java.io.IOException;
import java.io.UncheckedIOException;
import java.nio.file.Files;
import java.nio.file.Path;
import java.util.List;
import java.util.regex.MatchResult;
import java.util.regex.Pattern;
import java.util.stream.Collectors;
import java.util.stream.Stream;

/**
 * The tests and the document hold together: each sentence under 'Terms' stands
 * above a test, each promise has one, and no test quotes what the document does
 * not say. It runs in the project's folder.
 */
public final class SentencesTest {
    private static final Path DOCUMENT = Path.of("..", "shared", "DOC.md");
    private static final Path TESTS = Path.of("src", "test", "java");
    private static final Pattern COMMENT = Pattern.compile("(?s)/\\*\\*.*?\\*/");
    private static final Pattern QUOTE = Pattern.compile("\"([^\"]+)\"");
    private static final Pattern PROMISE = Pattern.compile("## Promise (\\d+):");
    // The two points of '0 .. 3' end no sentence.
    private static final String END_OF_SENTENCE = "(?<=[^ .]\\.) ";

    public static void main(String[] args) throws IOException {
        Check check = new Check();
        String document = onOneLine(Files.readString(DOCUMENT));
        sentencesOfTerms(check, document);
        promises(check, document);
        quotes(check, document);
        check.end();
    }

    private static String onOneLine(String text) {
        return text.replaceAll("\\s+", " ");
    }

    private static List<Path> testsNamed(String start) throws IOException {
        try (Stream<Path> files = Files.list(TESTS)) {
            return files.filter(file -> file.getFileName().toString().startsWith(start))
                .filter(file -> file.toString().endsWith("Test.java")).sorted().collect(Collectors.toList());
        }
    }

    /** The comments of a test, without the stars at the beginning of their lines. */
    private static String commentsOf(Path file) {
        try {
            return COMMENT.matcher(Files.readString(file)).results().map(MatchResult::group)
                .map(comment -> onOneLine(comment.replaceAll("\\n\\s*\\*", " "))).collect(Collectors.joining("\n"));
        } catch (IOException unreadable) {
            throw new UncheckedIOException(unreadable);
        }
    }

    private static void sentencesOfTerms(Check check, String document) throws IOException {
        String terms = document.substring(document.indexOf("## Terms") + 8, document.indexOf("## Promise 1:"));
        String comments = testsNamed("Terms").stream().map(SentencesTest::commentsOf).collect(Collectors.joining("\n"));
        for (String sentence : onOneLine(terms.replaceAll("```(text)?", " ")).trim().split(END_OF_SENTENCE)) {
            check.due("a test of: " + sentence, comments.contains('"' + sentence + '"') ? 1 : 0, 1);
        }
    }

    private static void promises(Check check, String document) throws IOException {
        List<MatchResult> headings = PROMISE.matcher(document).results().collect(Collectors.toList());
        check.due("promises", headings.size(), 13);
        for (MatchResult heading : headings) {
            String start = String.format("Promise%02d", Integer.parseInt(heading.group(1)));
            check.due("tests named " + start, testsNamed(start).size(), 1);
        }
    }

    private static void quotes(Check check, String document) throws IOException {
        for (Path file : testsNamed("")) {
            for (MatchResult quote : QUOTE.matcher(commentsOf(file)).results().collect(Collectors.toList())) {
                check.due(file + " quotes: " + quote.group(1), document.contains(quote.group(1)) ? 1 : 0, 1);
            }
        }
    }
}
