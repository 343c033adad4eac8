/** What many tests begin with: answers by their names, heaps on cells, walks, texts and what they make of a heap. */
abstract class Given {
    static final int NONE = -1, BAD = -2, STATE = -3, FULL = -4, NOWHERE = -5, OTHER_KIND = -6;
    static final int MIN = Integer.MIN_VALUE, MAX = Integer.MAX_VALUE;
    static final long NO = Long.MIN_VALUE;
    static final long ALL = (1L << 36) - 1;
    static final int[] NO_CELLS = {MIN, -36, -2, -1, 36, 37, 40, 64, MAX};

    static void due(String call, long got, long want) {
        Checks.due(call, got, want);
    }

    static long cells(int... cells) {
        long bits = 0;
        for (int cell : cells) bits |= 1L << cell;
        return bits;
    }

    /** Plain heaps on these cells, behind those that are there. */
    static MistHeaps heaps(MistHeaps x, int... cells) {
        for (int cell : cells) x.heap(0, 0, cell);
        return x;
    }

    static MistHeaps sight(int n, int... cells) {
        return heaps(Checks.withHill("sight " + n), cells);
    }

    static MistHeaps walks(MistHeaps x, int... ways) {
        for (int way : ways) x.walk(way);
        return x;
    }

    /** One heap of each kind, its number and its cell the kind's number, its v one more. */
    static MistHeaps ofAllKinds() {
        MistHeaps x = new MistHeaps();
        for (int kind = 0; kind <= 6; kind++) x.heap(kind, kind + 1, kind);
        return x;
    }

    static int looked(MistHeaps x, int... heaps) {
        x.book(-1);
        for (int heap : heaps) x.book(heap);
        return x.looked();
    }

    static void odds(MistHeaps x, int cell, int what, long above, long below) {
        due("odds(" + cell + ", " + what + ", 0)", x.odds(cell, what, 0), above);
        due("odds(" + cell + ", " + what + ", 1)", x.odds(cell, what, 1), below);
    }

    /** The text is no hill from that place on; -1: it is one. */
    static void fault(String text, int place) {
        due("hill() of " + text, Checks.hill(text), place < 0 ? 0 : -10 - place);
    }

    /** Whether the expression holds of heap 2, which is HIGH, in row 3 and column 4, with MIST 5 and SNOW 6. */
    static void holds(String expression, boolean want) {
        MistHeaps x = Checks.withHill("see 10 " + expression);
        heaps(x, 0, 1);
        x.heap(1, 0, 22);
        x.set(0, 5);
        x.set(1, 6);
        due("REACH by see 10 " + expression, x.of(2, 3), want ? 3 + 10 - 5 : 0);
    }

    static void act(MistHeaps x, int heap, int act, int given, int want, int... bodies) {
        String call = "act(" + heap + ", " + act + ", " + given + ")";
        due(call, x.act(heap, act, given), want);
        due("bodies of " + call, x.count(5), bodies.length);
        for (int i = 0; i < bodies.length; i++) due("body " + i + " of " + call, x.trace(i), bodies[i]);
        due("behind the last body of " + call, x.trace(bodies.length), NONE);
    }
}
