import java.io.IOException;
import java.io.UncheckedIOException;
import java.nio.file.Files;
import java.nio.file.Path;
import java.util.HashSet;
import java.util.Set;

/**
 * A test of one sentence of the document. Its number is the promise's, then a count within the
 * promise; its words are the document's own, so that one can see what the test holds.
 */
final class Sentence {
    private static final Set<String> NUMBERS = new HashSet<>();
    private static final String DOCUMENT = read(Path.of("../shared/DOC.md"));

    private Sentence() {
    }

    static void holds(String number, String words, Runnable calls) {
        int done = Check.done();
        int wrong = Check.wrong();
        Check.headWith(number + ": ");
        calls.run();
        Check.same("the test looks at some answer", Check.done() > done, true);
        Check.same("the number is used once", NUMBERS.add(number), true);
        Check.same("the document has the words", DOCUMENT.contains(words), true);
        Check.headWith("");
        System.out.println((Check.wrong() == wrong ? "  holds " : "  FAILS ") + number + ": " + words);
    }

    /** The document with its line ends taken out: a sentence may go over several. */
    private static String read(Path path) {
        try {
            return Files.readString(path).replaceAll("\\s+", " ");
        } catch (IOException e) {
            throw new UncheckedIOException(e);
        }
    }
}
