import java.io.IOException;
import java.nio.file.Path;
import java.util.HashSet;
import java.util.Set;

/** Tests of single sentences of the document: each begins with the words that it tests. */
class Boundaries extends Asking {
    private static final Set<String> TESTED = new HashSet<>();
    private static Sentences document;
    private static int checksAhead;

    static void startSentences(Path file) throws IOException {
        document = new Sentences(file);
        at("the document");
        due("promises found in " + file, document.promises(), 20);
    }

    /** A test begins, of these words in the section of a promise, or in what the document says for all. */
    static void sentence(int promise, String words) {
        endSentence();
        at("promise " + promise + " " + document.nameOf(promise) + ", '" + words + "'");
        boolean isThere = document.name(promise, words);
        boolean isNew = TESTED.add(promise + words);
        if (!isThere || !isNew) {
            holds(isThere ? "it is tested in one place" : "the document says so", false);
        }
        checksAhead = checksSoFar();
    }

    private static void endSentence() {
        if (!TESTED.isEmpty() && checksSoFar() == checksAhead) {
            holds("its test asks for anything", false);
        }
    }

    static void endSentences() {
        endSentence();
        at("the document");
        for (String words : document.unnamed()) {
            holds("a test names '" + words + "'", false);
        }
        System.out.println("sentences with a test: " + TESTED.size());
    }
}
