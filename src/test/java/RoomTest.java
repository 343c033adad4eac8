import com.sun.management.ThreadMXBean;
import java.lang.management.ManagementFactory;

/** All calls of a run share one room, so a question makes no object, and what is made is small. */
public final class RoomTest {
    private static final ThreadMXBean BEAN = (ThreadMXBean) ManagementFactory.getThreadMXBean();

    private RoomTest() {
    }

    public static void main(String[] args) {
        MistHeaps x = new MistHeaps();
        Checks.hill(x, "sight 2;see 1 k=1|r>3&!c=0;hide 1 m>2;drift 3 r<3;drift 1 c>2");
        for (int i = 0; i < 7; i++) x.heap(i, i, 5 * i);
        for (int i = 0; i < 6; i++) x.walk(i);
        for (int i = 0; i < 12; i++) x.book(i % 7);
        questions(x);
        long before = BEAN.getCurrentThreadAllocatedBytes();
        for (int i = 0; i < 100; i++) questions(x);
        long made = BEAN.getCurrentThreadAllocatedBytes() - before;
        Checks.due("2900 questions make less than 64 KiB", made < 65536 ? 0 : made, 0);
        before = BEAN.getCurrentThreadAllocatedBytes();
        MistHeaps fresh = new MistHeaps();
        for (int i = 0; i < 511; i++) fresh.hill();
        made = BEAN.getCurrentThreadAllocatedBytes() - before;
        Checks.due("a new object and 511 faults make less than 64 KiB", made < 65536 ? 0 : made, 0);
        most("a new object and 511 heaps that are taken back", RoomTest::heapsAgain);
        most("a new object and as many hills as 511 calls can make", RoomTest::hillsAgain);
        most("a new object and 511 images", RoomTest::images);
        Checks.end("RoomTest");
    }

    /** Each of some 60 hills may have rows of its own, which is far from the room's seven million elements. */
    private static void most(String what, Runnable run) {
        run.run();
        long before = BEAN.getCurrentThreadAllocatedBytes();
        run.run();
        long made = BEAN.getCurrentThreadAllocatedBytes() - before;
        Checks.due(what + " make less than 128 KiB", made < 131072 ? 0 : made, 0);
    }

    private static void heapsAgain() {
        MistHeaps x = new MistHeaps();
        x.image();
        for (int calls = 1; calls < 511; calls += 2) {
            x.heap(4, 9, 35);
            x.undo();
        }
    }

    private static void hillsAgain() {
        MistHeaps x = new MistHeaps();
        String text = "sight 1";
        x.image();
        for (int calls = 1; calls < 503; calls += 9) {
            for (int i = 0; i < 7; i++) x.feed(text.charAt(i));
            x.hill();
            x.undo();
        }
    }

    private static void images() {
        MistHeaps x = new MistHeaps();
        for (int calls = 0; calls < 511; calls++) x.image();
    }

    private static void questions(MistHeaps x) {
        for (int what = 0; what < 4; what++) x.of(2, what);
        x.told(2);
        x.sees(14);
        x.where(3);
        x.steps(0, 6);
        x.via(0, 6);
        x.cuts(0, 6);
        x.bears(0, 6);
        x.build(0, 6, 0);
        x.build(0, 6, 1);
        x.drift(3);
        x.odds(14, 8, 0);
        x.odds(14, 40, 1);
        x.odds(14, 53, 1);
        x.best(14, 28, 3, 2);
        x.bestOdds(14, 28, 3, 1);
        x.safe(14, 3, 2);
        x.line(3, 4);
        x.next(0, 1, 2);
        x.looked();
        x.act(4, 2, 77);
        x.trace(3);
        x.as(4, 1);
        x.image();
        x.undo();
        x.count(5);
    }
}
