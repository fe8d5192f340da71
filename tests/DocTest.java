import java.io.IOException;
import java.nio.file.DirectoryStream;
import java.nio.file.Files;
import java.nio.file.Path;
import java.util.ArrayList;
import java.util.List;
import java.util.regex.Matcher;
import java.util.regex.Pattern;

/**
 * The document is quoted whole by the edge tests: each word of the terms and of the promises stands in a sentence that
 * some test of tests/*EdgeTest.java quotes, those of a promise by a test that tells its number.
 */
public final class DocTest {
    private static final Due DUE = new Due();

    private record Quote(int promise, String sentence) {
    }

    private static List<Quote> quotes() throws IOException {
        List<Quote> all = new ArrayList<>();
        Pattern pattern = Pattern.compile("new Edge\\((\\d+), \"([^\"]*)\"\\)");
        try (DirectoryStream<Path> files = Files.newDirectoryStream(Path.of("tests"), "*EdgeTest.java")) {
            for (Path file : files) {
                Matcher m = pattern.matcher(Files.readString(file));
                while (m.find()) {
                    all.add(new Quote(Integer.parseInt(m.group(1)), m.group(2)));
                }
            }
        }
        return all;
    }

    private static void cover(boolean[] covered, String text, String sentence) {
        for (int at = text.indexOf(sentence); at >= 0; at = text.indexOf(sentence, at + 1)) {
            for (int i = at; i < at + sentence.length(); i++) {
                covered[i] = true;
            }
        }
    }

    /** Nothing but signs and blanks is left between the sentences that are quoted. */
    private static void holdsNothingElse(String name, String text, boolean[] covered) {
        StringBuilder left = new StringBuilder();
        for (int i = 0; i <= text.length(); i++) {
            if (i < text.length() && !covered[i]) {
                left.append(text.charAt(i));
            } else if (left.length() > 0) {
                DUE.hold(name + ": no test quotes '" + left + "'", !left.toString().matches("(?s).*[A-Za-z0-9].*"));
                left.setLength(0);
            }
        }
    }

    private static void terms(List<Quote> quotes) {
        String terms = Doc.terms().replaceAll("(?s).*## Terms\n|Ahead of the calls.*|```(text)?|======== 2", "");
        DUE.hold("the terms are there", terms.length() > 5000);
        boolean[] covered = new boolean[terms.length()];
        for (Quote quote : quotes) {
            cover(covered, terms, quote.sentence());
        }
        holdsNothingElse("terms", terms, covered);
    }

    private static void promises(List<Quote> quotes) {
        for (int n = 1; n <= 48; n++) {
            String promise = Doc.promise(n);
            boolean[] covered = new boolean[promise.length()];
            for (Quote quote : quotes) {
                if (quote.promise() == n) {
                    cover(covered, promise, quote.sentence());
                }
            }
            DUE.hold("promise " + n + " is there", !promise.isBlank());
            holdsNothingElse("promise " + n, promise, covered);
        }
    }

    public static void main(String[] args) throws IOException {
        List<Quote> quotes = quotes();
        DUE.hold("there are quotes", !quotes.isEmpty());
        terms(quotes);
        promises(quotes);
        DUE.end("DocTest, " + quotes.size() + " sentences");
    }
}
