import java.util.LinkedHashSet;
import java.util.List;
import java.util.Set;

/**
 * Each sentence of the document has a test of its own, or is named here as one that tells no edge. A
 * sentence that is neither is a fault, and so is a test for a sentence that the document does not have.
 */
public final class SentencesTest {
    private static final String[] WITHOUT_EDGE = {
        "An archive on rails: ",
        "Boxes are laid, aisles are opened, ",
        "Moving.",
        "Doubt.",
        "Ahead of the calls ",
        "How the state is held inside the object is free, ",
        "Use of one object from several threads ",
        "Nothing is promised beyond the answers ",
    };

    private static boolean namesAnEdge(String text) {
        for (String start : WITHOUT_EDGE) {
            if (text.startsWith(start)) {
                return false;
            }
        }
        return true;
    }

    private static void testAllHaveTests() {
        List<Document.Sentence> tested = Check.sentences();
        Set<Document.Sentence> document = new LinkedHashSet<>(Document.sentences());
        for (Document.Sentence sentence : document) {
            boolean due = namesAnEdge(sentence.text());
            Check.same("tested is " + sentence, due, tested.contains(sentence));
        }
        for (Document.Sentence sentence : tested) {
            Check.same("the document has " + sentence, true, document.contains(sentence));
        }
    }

    public static void main(String[] args) {
        TermSentences.all();
        ShelfSentences.all();
        AisleSentences.all();
        OrderSentences.all();
        testAllHaveTests();
        Check.end("SentencesTest");
    }
}
