import java.io.IOException;
import java.io.UncheckedIOException;
import java.nio.file.Files;
import java.nio.file.Path;
import java.util.regex.Matcher;
import java.util.regex.Pattern;

/** The document's words, so that a test can quote none that it does not hold. */
public final class Doc {
    private static final String ALL = readAll();

    private static String readAll() {
        try {
            return Files.readString(Path.of("../shared/DOC.md"));
        } catch (IOException e) {
            throw new UncheckedIOException(e);
        }
    }

    /** What stands ahead of the promises: what it is, the face, the terms. */
    public static String terms() {
        return ALL.substring(0, ALL.indexOf("## Promise 1:"));
    }

    /** What one promise says, behind its call; empty if there is no such promise. */
    public static String promise(int n) {
        Matcher m = Pattern.compile("(?s)## Promise " + n + ": .*?\n+`[^`]*`:(.*?)(?=\n## |\\z)").matcher(ALL);
        return m.find() ? m.group(1) : "";
    }

    public static boolean says(int promise, String sentence) {
        return !promise(promise).isEmpty() && (terms().contains(sentence) || promise(promise).contains(sentence));
    }
}
