import java.util.ArrayList;
import java.util.List;

/** All sentences of the document that the class must keep, in the document's order. */
final class Sentences {
    private final List<Sentence> all = new ArrayList<>();
    private int section = 0;

    static List<Sentence> all() {
        Sentences told = new Sentences();
        CellSentences.tell(told);
        HillSentences.tell(told);
        RowSentences.tell(told);
        StepSentences.tell(told);
        ActSentences.tell(told);
        RefusalSentences.tell(told);
        PromiseSentences.tell(told);
        return told.all;
    }

    void section(int promise) {
        section = promise;
    }

    void say(String words, Runnable test, String... changes) {
        all.add(new Sentence(section, words, test, changes));
    }
}
