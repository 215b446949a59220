import java.io.IOException;
import java.nio.file.Files;
import java.nio.file.Path;
import java.util.List;
import java.util.regex.Matcher;
import java.util.regex.Pattern;
import java.util.stream.Stream;

/** What tests quote by sentence(..) stands in the document word for word, so that a quote can be found there. */
public final class QuoteTest {
    private static final Pattern QUOTE = Pattern.compile("\\bsentence\\(\"((?:[^\"\\\\]|\\\\.)*)\"\\)");

    public static void main(String[] args) throws IOException {
        String document = Files.readString(Path.of("../shared/DOC.md"));
        int quotes = 0;
        try (Stream<Path> tests = Files.list(Path.of("src/test/java"))) {
            List<Path> files = tests.sorted().toList();
            for (Path t : files) quotes += checkQuotes(t, document);
        }
        Check.due("there are quotes", quotes > 0 ? 1 : 0, 1);
        Check.end("QuoteTest");
    }

    private static int checkQuotes(Path test, String document) throws IOException {
        Matcher m = QUOTE.matcher(Files.readString(test));
        int quotes = 0;
        while (m.find()) {
            quotes++;
            Check.due(test.getFileName() + " quotes what the document doesn't say: " + m.group(1), document.contains(m.group(1)) ? 1 : 0, 1);
        }
        return quotes;
    }
}
