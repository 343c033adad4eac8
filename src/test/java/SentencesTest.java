import java.io.IOException;
import java.nio.file.Files;
import java.nio.file.Path;
import java.util.List;

/** Each sentence of the document has a test of its own, and holds; no words of terms or promises are left out. */
public final class SentencesTest {
    private static final Path DOCUMENT = Path.of("../shared/DOC.md");
    private static final int PROMISES = 31;

    private SentencesTest() {
    }

    public static void main(String[] args) throws IOException {
        List<Sentence> all = Sentences.all();
        noneIsLeftOut(all, Files.readString(DOCUMENT));
        for (Sentence one : all) run(one);
        Checks.about("");
        Checks.end("SentencesTest");
    }

    private static void run(Sentence one) {
        Checks.about((one.section() == 0 ? "terms" : "promise " + one.section()) + ", \"" + one.words() + "\": ");
        int before = Checks.asked();
        one.test().run();
        Checks.due("something is asked", Checks.asked() > before ? 1 : 0, 1);
    }

    /** Whether that sentence's own test fails; asked by BrokenTest of a class that is broken. */
    static boolean fails(int number) {
        Checks.quiet();
        int before = Checks.wrong();
        try {
            Sentences.all().get(number).test().run();
        } catch (RuntimeException thrown) {
            return true;
        }
        return Checks.wrong() > before;
    }

    private static void noneIsLeftOut(List<Sentence> all, String document) {
        int told = 0;
        for (int section = 0; section <= PROMISES; section++) {
            String text = textOf(section, document);
            int at = 0;
            for (; told < all.size() && all.get(told).section() == section; told++) {
                String words = all.get(told).words();
                int found = text.indexOf(words, at);
                Checks.due("section " + section + " has the words: " + words, found < 0 ? 0 : 1, 1);
                if (found < 0) continue;
                noWords(section, text.substring(at, found));
                at = found + words.length();
            }
            noWords(section, text.substring(at));
        }
        Checks.due("sentences of sections that are there", told, all.size());
    }

    private static void noWords(int section, String rest) {
        Checks.due("section " + section + " leaves out: " + rest, rest.isBlank() ? 0 : 1, 0);
    }

    /** The section's words in one row, without what only sets them. */
    private static String textOf(int section, String document) {
        String head = section == 0 ? "## Terms\n" : "## Promise " + section + ":";
        int from = document.indexOf('\n', document.indexOf(head));
        int to = document.indexOf("\n## ", from);
        return document.substring(from, to)
            .replaceAll("(?m)^Ahead of the calls .*$", "")
            .replaceAll("(?m)^```.*$", "")
            .replaceAll("==== \\d", "")
            .replace("`", "")
            .replaceAll("\\s+", " ");
    }
}
