import java.io.IOException;
import java.io.UncheckedIOException;
import java.nio.charset.StandardCharsets;
import java.nio.file.Files;
import java.nio.file.Path;
import java.util.regex.Matcher;
import java.util.regex.Pattern;

/** Ties answers to the words of the document that they are due by; words that don't stand there fail the test. */
final class Words {
    private final Check check;
    private final String document;
    private String quote = "";

    Words(String name) {
        check = new Check(name);
        document = oneLine(read("../shared/DOC.md"));
    }

    /** What is due from here on is due by these words. */
    void by(String words) {
        quote = words;
        check.due("'" + words + "' in the document", document.contains(oneLine(words)) ? 1 : 0, 1);
    }

    /** What is due from here on is due by the promise of this call. */
    void byPromise(String call) {
        Matcher promise = Pattern.compile("`(int|long) " + call + "\\([^`]*`: .*?(?= ## |$)").matcher(document);
        quote = promise.find() ? promise.group() : call;
        check.due("a promise of " + call + " in the document", quote.equals(call) ? 0 : 1, 1);
    }

    void due(String what, long got, long want) {
        check.due("'" + quote + "': " + what, got, want);
    }

    void end() {
        check.end();
    }

    private static String oneLine(String text) {
        return text.replaceAll("\\s+", " ");
    }

    private static String read(String path) {
        try {
            return Files.readString(Path.of(path), StandardCharsets.UTF_8);
        } catch (IOException e) {
            throw new UncheckedIOException(e);
        }
    }
}
