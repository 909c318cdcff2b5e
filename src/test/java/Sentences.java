import java.io.IOException;
import java.nio.file.Files;
import java.nio.file.Path;
import java.util.TreeSet;
import java.util.function.Supplier;

/** Sentences of the document that name a boundary, word for word, each with checks of its own. */
final class Sentences {
    /** A call whose answer is looked at. */
    interface Call {
        long on(PushedTillItCatches x);
    }

    private static final String DOCUMENT = "../shared/DOC.md";

    private final Checks checks;
    private final String document;
    private final TreeSet<Integer> promises = new TreeSet<>();
    private String sentence = "";
    private int checksOfIt = 1;
    private int sentences;

    Sentences(String name) throws IOException {
        checks = new Checks(name);
        document = Files.readString(Path.of(DOCUMENT)).replaceAll("\\s+", " ");
    }

    /** Begins the checks of a sentence, or of a part of it, that one of the promises uses. */
    void says(int promise, String words) {
        endSentence();
        sentence = promise + " \"" + words + "\"";
        checksOfIt = 0;
        sentences++;
        promises.add(promise);
        checks.holds(sentence + " stands in the document", document.contains(words));
    }

    private void endSentence() {
        checks.holds(sentence + " has a check", checksOfIt > 0);
    }

    void due(String call, long got, long want) {
        checksOfIt++;
        checks.due(sentence + ": " + call, got, want);
    }

    void holds(String what, boolean isSo) {
        due(what + " (1 it is so)", isSo ? 1 : 0, 1);
    }

    /** The call answers what is due, and all is as if it had not been made: refused, or only in mind. */
    void leavesAll(String call, Supplier<PushedTillItCatches> made, Call asked, long want) {
        PushedTillItCatches x = made.get();
        due(call, asked.on(x), want);
        String then = Checks.everythingOf(x);
        holds(call + " changes nothing", then.equals(Checks.everythingOf(made.get())));
    }

    /** Ends the checks; each promise from the first to the last must have had a sentence. */
    void end(int first, int last) {
        for (int promise = first; promise <= last; promise++) {
            checks.holds("promise " + promise + " has a sentence", promises.contains(promise));
        }
        end();
    }

    void end() {
        endSentence();
        System.out.println(sentences + " sentences, of promises " + promises.first() + " to " + promises.last());
        checks.end();
    }
}
