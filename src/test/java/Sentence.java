import java.io.IOException;
import java.io.UncheckedIOException;
import java.nio.file.Files;
import java.nio.file.Path;
import java.util.HashSet;
import java.util.Set;

/**
 * A test of one sentence of the document. Its number is the promise's (0 for the text ahead of and
 * behind the promises), then a count within the promise; its words are the document's own, so that
 * one can see what the test holds.
 */
final class Sentence {
    private static final Set<String> NUMBERS = new HashSet<>();
    private static final String DOCUMENT = oneLine(text("../shared/DOC.md"));
    private static final String LANGUAGE = oneLine(text("../shared/LANGUAGE.md"));

    private Sentence() {
    }

    static void holds(String number, String words, Runnable calls) {
        heldBy(DOCUMENT, number, words, calls);
    }

    /** The same for a rule of LANGUAGE.md. */
    static void rule(String number, String words, Runnable calls) {
        heldBy(LANGUAGE, number, words, calls);
    }

    private static void heldBy(String document, String number, String words, Runnable calls) {
        int done = Check.done();
        int wrong = Check.wrong();
        Check.headWith(number + ": ");
        calls.run();
        Check.same("the test looks at some answer", Check.done() > done, true);
        Check.same("the number is used once", NUMBERS.add(number), true);
        Check.same("the document has the words", document.contains(words), true);
        Check.headWith("");
        System.out.println((Check.wrong() == wrong ? "  holds " : "  FAILS ") + number + ": " + words);
    }

    static String text(String path) {
        try {
            return Files.readString(Path.of(path));
        } catch (IOException e) {
            throw new UncheckedIOException(e);
        }
    }

    /** Without line ends: a sentence may go over several. */
    private static String oneLine(String text) {
        return text.replaceAll("\\s+", " ");
    }
}
