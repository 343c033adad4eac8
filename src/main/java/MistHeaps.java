import java.util.ArrayList;

/** Heaps of stone in mist, on a hill of six rows of six cells; shared/DOC.md tells what each call answers. */
public final class MistHeaps {
    public static final int NONE = -1, BAD = -2, STATE = -3, FULL = -4;
    public static final long NO = Long.MIN_VALUE;

    private static final int NOWHERE = -5, OTHER_KIND = -6, FAULTY = -10;
    private static final int SIDE = 6, CELLS = 36, WAYS = 8, KINDS = 7;
    private static final int MOST_SIGNS = 100, MOST_HILLS = 5, MOST_HEAPS = 8;
    private static final int MOST_WALKED = 6, MOST_BOOKED = 12, MOST_TRACED = 20, MOST_STEPS = 3;
    private static final int ODDS_OF_OVER = 40, ODDS_OF_SEEN = 50;
    private static final long ALL_CELLS = (1L << CELLS) - 1;
    private static final int[] DOWN = {-1, -1, 0, 1, 1, 1, 0, -1};
    private static final int[] RIGHT = {0, 1, 1, 1, 0, -1, -1, -1};
    private static final int[] KIND_ABOVE = {-1, 0, 0, 0, 1, 2, 3};

    private final Scene scene;
    private final Scene kept;
    private boolean isKept;
    private Hill blank;
    private final Goings goings;
    private final Chances chances;
    private final ArrayList<Integer> bodies;

    public MistHeaps() {
        scene = new Scene();
        kept = new Scene();
        isKept = false;
        blank = new Hill();
        goings = new Goings();
        chances = new Chances();
        bodies = new ArrayList<>();
    }

    // ---- hills, heaps

    public int feed(int sign) {
        if (sign < 0 || sign > 127) return BAD;
        if (scene.tapeSize >= MOST_SIGNS) return FULL;
        scene.tape[scene.tapeSize] = sign;
        scene.tapeSize++;
        return scene.tapeSize;
    }

    public int hill() {
        if (scene.hills >= MOST_HILLS) return FULL;
        int fault = blank.read(scene.tape, scene.tapeSize);
        scene.tapeSize = 0;
        if (fault != NONE) return FAULTY - fault;
        scene.hill = blank;
        // An image may hold the hill just read, so the next one is read into rows of its own.
        blank = new Hill();
        scene.hills++;
        return scene.hills - 1;
    }

    public int edges(long cells) {
        if ((cells & ~ALL_CELLS) != 0) return BAD;
        int were = Long.bitCount(scene.edges);
        scene.edges = cells;
        return were;
    }

    public int set(int what, int n) {
        if (what < 0 || what > 1) return NONE;
        if (n < 0 || n > 9) return BAD;
        int was = told(what);
        if (what == 0) scene.mist = n;
        else scene.snow = n;
        return was;
    }

    public int told(int what) {
        switch (what) {
            case 0: return scene.mist;
            case 1: return scene.snow;
            case 2: return scene.hill.sight;
            case 3: return Long.bitCount(scene.edges);
            default: return NONE;
        }
    }

    public int heap(int kind, int v, int cell) {
        if (kind < 0 || kind >= KINDS || !isCell(cell)) return NONE;
        if (v < 0 || v > 9) return BAD;
        if (scene.isTaken(cell)) return STATE;
        if (scene.heapCount >= MOST_HEAPS) return FULL;
        scene.heaps[scene.heapCount] = heapOfKind(kind, scene.heapCount, v, cell);
        scene.heapCount++;
        return scene.heapCount - 1;
    }

    public int of(int heap, int what) {
        Heap asked = scene.heapAt(heap);
        if (asked == null) return NONE;
        switch (what) {
            case 0: return asked.kind;
            case 1: return asked.v;
            case 2: return asked.cell;
            case 3: return scene.reachOf(asked, scene.snow);
            default: return NONE;
        }
    }

    // ---- seen, rows

    public int sees(int cell) {
        if (!isCell(cell)) return NONE;
        goings.measure(scene, scene.snow);
        return goings.seenFrom(scene, cell);
    }

    public long where(int set) {
        if (set < 0 || set >= 1 << scene.heapCount) return NO;
        goings.measure(scene, scene.snow);
        long cells = 0;
        for (int cell = 0; cell < CELLS; cell++) {
            if (goings.seenFrom(scene, cell) == set) cells |= 1L << cell;
        }
        return cells;
    }

    public int steps(int one, int other) {
        if (!scene.areHeaps(one, other)) return NONE;
        goings.link(scene, scene.snow);
        return goings.fewest(one, other, 0);
    }

    public int via(int one, int other) {
        if (!scene.areHeaps(one, other)) return NONE;
        goings.link(scene, scene.snow);
        return goings.first(one, other);
    }

    public int cuts(int one, int other) {
        if (!scene.areHeaps(one, other)) return NONE;
        goings.link(scene, scene.snow);
        return goings.breaks(one, other);
    }

    public int bears(int one, int other) {
        if (!scene.areHeaps(one, other)) return NONE;
        for (int snow = 9; snow >= 0; snow--) {
            goings.link(scene, snow);
            if (goings.fewest(one, other, 0) != NOWHERE) return snow;
        }
        return NOWHERE;
    }

    public int build(int one, int other, int what) {
        if (!scene.areHeaps(one, other) || what < 0 || what > 1) return NONE;
        int cell = goings.bestCell(scene, one, other);
        if (cell == NOWHERE || what == 0) return cell;
        goings.join(scene, cell);
        return goings.fewest(one, other, 0);
    }

    // ---- steps by chances

    public int drift(int cell) {
        return isCell(cell) ? scene.driftOn(cell) : NONE;
    }

    public int walk(int way) {
        if (way == -1) {
            scene.walkSize = 0;
            return 0;
        }
        if (way < 0 || way >= WAYS) return NONE;
        if (scene.walkSize >= MOST_WALKED) return FULL;
        scene.walk[scene.walkSize] = way;
        scene.walkSize++;
        return scene.walkSize;
    }

    public long odds(int cell, int what, int part) {
        if (!isCell(cell) || part < 0 || part > 1) return NO;
        long asked;
        if (isCell(what)) {
            asked = 1L << what;
        } else if (what == ODDS_OF_OVER) {
            asked = scene.edges;
        } else if (what >= ODDS_OF_SEEN && what - ODDS_OF_SEEN < scene.heapCount) {
            asked = scene.cellsSeeing(what - ODDS_OF_SEEN) & ~scene.edges;
        } else {
            return NO;
        }
        long times = chances.walked(scene, cell, asked);
        return partOf(times, Chances.timesOf(scene.walkSize), part);
    }

    public int best(int cell, int other, int n, int k) {
        if (!isCell(cell) || !isCell(other) || k < 0 || k >= MOST_STEPS) return NONE;
        if (n < 1 || n > MOST_STEPS) return BAD;
        if (k >= n) return NONE;
        chances.search(scene, cell, 1L << other, n);
        return chances.foundWay(n, k);
    }

    public long bestOdds(int cell, int other, int n, int part) {
        if (!isCell(cell) || !isCell(other) || n < 1 || n > MOST_STEPS || part < 0 || part > 1) return NO;
        chances.search(scene, cell, 1L << other, n);
        return partOf(chances.foundTimes, Chances.timesOf(n), part);
    }

    public int safe(int cell, int n, int k) {
        if (!isCell(cell) || k < 0 || k >= MOST_STEPS) return NONE;
        if (n < 1 || n > MOST_STEPS) return BAD;
        if (k >= n) return NONE;
        chances.search(scene, cell, ALL_CELLS & ~scene.edges, n);
        return chances.foundWay(n, k);
    }

    // ---- lines, books

    public int line(int heap, int n) {
        Heap from = scene.heapAt(heap);
        if (from == null) return NONE;
        if (n < 1 || n > 9) return BAD;
        int far = (n - 1) * Math.max(0, scene.hill.sight - scene.mist);
        int bits = 0;
        for (int i = 0; i < scene.heapCount; i++) {
            if (i != heap && apart(from.cell, scene.heaps[i].cell) <= far) bits |= 1 << i;
        }
        return bits;
    }

    public int next(int a, int b, int c) {
        Heap first = scene.heapAt(a);
        Heap second = scene.heapAt(b);
        Heap third = scene.heapAt(c);
        if (first == null || second == null || third == null) return NONE;
        int row = 3 * rowOf(third.cell) - 3 * rowOf(second.cell) + rowOf(first.cell);
        int column = 3 * columnOf(third.cell) - 3 * columnOf(second.cell) + columnOf(first.cell);
        return isOnHill(row, column) ? row * SIDE + column : NOWHERE;
    }

    public int book(int heap) {
        if (heap == -1) {
            scene.bookSize = 0;
            return 0;
        }
        if (scene.heapAt(heap) == null) return NONE;
        if (scene.bookSize >= MOST_BOOKED) return FULL;
        scene.book[scene.bookSize] = heap;
        scene.bookSize++;
        return scene.bookSize;
    }

    public int looked() {
        goings.link(scene, scene.snow);
        for (int i = 1; i < scene.bookSize; i++) {
            if (!goings.isGoing(scene.book[i - 1], scene.book[i])) return scene.book[i];
        }
        return NOWHERE;
    }

    // ---- acts, the image

    public int act(int heap, int act, int x) {
        bodies.clear();
        Heap actor = scene.heapAt(heap);
        if (actor == null) return 0;
        switch (act) {
            case 0: return actor.doSees(x, bodies);
            case 1: return actor.doGoes(x, bodies);
            case 2: return actor.doLooks(x, bodies);
            default: return 0;
        }
    }

    public int trace(int i) {
        return i >= 0 && i < bodies.size() ? bodies.get(i) : NONE;
    }

    public int as(int heap, int k) {
        Heap taken = scene.heapAt(heap);
        if (taken == null || k < 0 || k >= KINDS) return NONE;
        return taken.isOfKind(k) ? taken.v : OTHER_KIND;
    }

    public int image() {
        kept.copyFrom(scene);
        isKept = true;
        return scene.heapCount;
    }

    public int undo() {
        if (!isKept) return STATE;
        scene.copyFrom(kept);
        return scene.heapCount;
    }

    public int count(int what) {
        switch (what) {
            case 0: return scene.heapCount;
            case 1: return scene.hills;
            case 2: return scene.walkSize;
            case 3: return scene.bookSize;
            case 4: return scene.tapeSize;
            // No act runs more than seven bodies, so all that ran are kept.
            case 5: return bodies.size();
            default: return NONE;
        }
    }

    // ---- cells, fractions

    private static boolean isCell(int cell) {
        return cell >= 0 && cell < CELLS;
    }

    private static int rowOf(int cell) {
        return cell / SIDE;
    }

    private static int columnOf(int cell) {
        return cell % SIDE;
    }

    private static boolean isOnHill(int row, int column) {
        return row >= 0 && row < SIDE && column >= 0 && column < SIDE;
    }

    private static int apart(int one, int other) {
        return Math.max(Math.abs(rowOf(one) - rowOf(other)), Math.abs(columnOf(one) - columnOf(other)));
    }

    private static int besideOrSame(int cell, int way) {
        int row = rowOf(cell) + DOWN[way];
        int column = columnOf(cell) + RIGHT[way];
        return isOnHill(row, column) ? row * SIDE + column : cell;
    }

    private static boolean isIn(long cells, int cell) {
        return (cells >> cell & 1) == 1;
    }

    private static long partOf(long above, long below, int part) {
        long common = commonDivisor(above, below);
        if (common <= 0) return NO;
        return (part == 0 ? above : below) / common;
    }

    private static long commonDivisor(long one, long other) {
        // The numbers stay under 20 to the sixth, for which Euclid needs fewer than 64 turns.
        for (int turn = 0; turn < 64 && other != 0; turn++) {
            long rest = one % other;
            one = other;
            other = rest;
        }
        return one;
    }

    private static Heap heapOfKind(int kind, int number, int v, int cell) {
        switch (kind) {
            case 1: return new High(kind, number, v, cell);
            case 2: return new Low(kind, number, v, cell);
            case 3: return new False(kind, number, v, cell);
            case 4: return new Turning(kind, number, v, cell);
            case 5: return new Snowed(kind, number, v, cell);
            case 6: return new Old(kind, number, v, cell);
            default: return new Heap(kind, number, v, cell);
        }
    }

    // ---- the kinds of heaps

    static class Heap {
        final int kind;
        int number;
        final int v;
        int cell;

        Heap(int kind, int number, int v, int cell) {
            this.kind = kind;
            this.number = number;
            this.v = v;
            this.cell = cell;
        }

        boolean isOfKind(int k) {
            int up = kind;
            for (int turn = 0; turn < KINDS && up >= 0; turn++) {
                if (up == k) return true;
                up = KIND_ABOVE[up];
            }
            return false;
        }

        /** How far it is seen, if the hill and the mist let a plain heap be seen so far. */
        int reachBy(int plain, int snow) {
            return Math.max(0, plain);
        }

        boolean leadsTo(int other) {
            return true;
        }

        int doSees(int x, ArrayList<Integer> bodies) {
            begin(1, bodies);
            return x + number;
        }

        int doGoes(int x, ArrayList<Integer> bodies) {
            begin(2, bodies);
            return doSees(x, bodies) - v;
        }

        int doLooks(int x, ArrayList<Integer> bodies) {
            begin(3, bodies);
            return doGoes(x, bodies) * 2;
        }

        static void begin(int body, ArrayList<Integer> bodies) {
            if (bodies.size() < MOST_TRACED) bodies.add(body);
        }
    }

    static class High extends Heap {
        High(int kind, int number, int v, int cell) {
            super(kind, number, v, cell);
        }

        int reachBy(int plain, int snow) {
            return super.reachBy(plain + v / 3, snow);
        }

        int doSees(int x, ArrayList<Integer> bodies) {
            begin(11, bodies);
            return super.doSees(x * 3, bodies);
        }
    }

    static class Low extends Heap {
        Low(int kind, int number, int v, int cell) {
            super(kind, number, v, cell);
        }

        int reachBy(int plain, int snow) {
            return super.reachBy(plain - 1, snow);
        }

        int doGoes(int x, ArrayList<Integer> bodies) {
            begin(21, bodies);
            return -super.doGoes(x, bodies);
        }
    }

    static class False extends Heap {
        False(int kind, int number, int v, int cell) {
            super(kind, number, v, cell);
        }

        boolean leadsTo(int other) {
            return false;
        }

        int doLooks(int x, ArrayList<Integer> bodies) {
            begin(31, bodies);
            return super.doLooks(x, bodies) ^ 7;
        }
    }

    static final class Turning extends High {
        Turning(int kind, int number, int v, int cell) {
            super(kind, number, v, cell);
        }

        boolean leadsTo(int other) {
            int way = v % WAYS;
            return isOnSide(DOWN[way], rowOf(other) - rowOf(cell))
                && isOnSide(RIGHT[way], columnOf(other) - columnOf(cell));
        }

        static boolean isOnSide(int side, int by) {
            return side == 0 || side * by > 0;
        }

        int doLooks(int x, ArrayList<Integer> bodies) {
            begin(41, bodies);
            int looked = super.doLooks(x - 1, bodies);
            return looked + doSees(2, bodies);
        }
    }

    static final class Snowed extends Low {
        Snowed(int kind, int number, int v, int cell) {
            super(kind, number, v, cell);
        }

        int reachBy(int plain, int snow) {
            return snow > v ? 0 : super.reachBy(plain, snow);
        }

        int doSees(int x, ArrayList<Integer> bodies) {
            begin(51, bodies);
            return super.doSees(x, bodies) ^ number;
        }
    }

    static final class Old extends False {
        Old(int kind, int number, int v, int cell) {
            super(kind, number, v, cell);
        }

        int reachBy(int plain, int snow) {
            return Math.min(1, super.reachBy(plain, snow));
        }

        int doGoes(int x, ArrayList<Integer> bodies) {
            begin(61, bodies);
            return super.doGoes(x, bodies) + v;
        }
    }

    /** A text of clauses, read; one that has read nothing has no clauses. */
    static final class Hill {
        static final int SEE = 0, HIDE = 1, SIGHT = 2, DRIFT = 3, WORDS = 4;
        static final int MOST_CLAUSES = 10, MOST_OPEN = 5, SIGHT_WITHOUT = 3;
        private static final int NOT = -1, AND = -2, OR = -3;

        int sight = SIGHT_WITHOUT;
        private int clauses;
        private final int[] words = new int[MOST_CLAUSES];
        private final int[] amounts = new int[MOST_CLAUSES];
        private final int[] ends = new int[MOST_CLAUSES];
        // The expressions with their signs behind what they join; no sign of the tape becomes more than one code.
        private final int[] codes = new int[MOST_SIGNS];
        private int coded;
        private int[] tape;
        private int size;
        private int at;
        private int number;

        /** The place of the first byte with which no hill can go on, NONE if the whole tape is one. */
        int read(int[] signs, int length) {
            tape = signs;
            size = length;
            at = 0;
            coded = 0;
            sight = SIGHT_WITHOUT;
            for (int clause = 0; clause < MOST_CLAUSES; clause++) {
                int word = readWord();
                if (word == NONE || !readNumber()) return at;
                words[clause] = word;
                amounts[clause] = number;
                if (word == SIGHT) sight = number;
                else if (!readSign(' ') || !readEither(0)) return at;
                ends[clause] = coded;
                clauses = clause + 1;
                if (at == size) return NONE;
                if (!readSign(';')) return at;
            }
            // The last one that there can be has a ; behind it, and that is where no hill goes on.
            return at - 1;
        }

        private int readWord() {
            int farthest = 0;
            for (int word = 0; word < WORDS; word++) {
                String text = textOf(word);
                int same = sameSigns(text);
                farthest = Math.max(farthest, same);
                if (same == text.length()) {
                    at += same;
                    return word;
                }
            }
            at += farthest;
            return NONE;
        }

        /** The blank behind it is a part of each, so that no word is the beginning of another. */
        private static String textOf(int word) {
            switch (word) {
                case SEE: return "see ";
                case HIDE: return "hide ";
                case SIGHT: return "sight ";
                default: return "drift ";
            }
        }

        private int sameSigns(String text) {
            int same = 0;
            while (same < text.length() && at + same < size && tape[at + same] == text.charAt(same)) same++;
            return same;
        }

        private boolean readNumber() {
            if (!isDigit(sign())) return false;
            number = sign() - '0';
            at++;
            if (number > 0 && isDigit(sign())) {
                number = number * 10 + sign() - '0';
                at++;
            }
            return true;
        }

        private static boolean isDigit(int sign) {
            return sign >= '0' && sign <= '9';
        }

        /** The sign at hand; at the end 0, which no hill has anywhere. */
        private int sign() {
            return at < size ? tape[at] : 0;
        }

        private boolean readSign(char wanted) {
            if (sign() != wanted) return false;
            at++;
            return true;
        }

        private boolean readEither(int open) {
            if (!readBoth(open)) return false;
            for (int turn = 0; turn < size && readSign('|'); turn++) {
                if (!readBoth(open)) return false;
                code(OR);
            }
            return true;
        }

        private boolean readBoth(int open) {
            if (!readPlain(open)) return false;
            for (int turn = 0; turn < size && readSign('&'); turn++) {
                if (!readPlain(open)) return false;
                code(AND);
            }
            return true;
        }

        private boolean readPlain(int open) {
            int sign = sign();
            if (sign != '!' && sign != '(') return readTest();
            if (open >= MOST_OPEN) return false;
            at++;
            if (sign == '(') return readEither(open + 1) && readSign(')');
            if (!readPlain(open + 1)) return false;
            code(NOT);
            return true;
        }

        private boolean readTest() {
            int fact = "hkrcms".indexOf((char) sign());
            if (fact < 0) return false;
            at++;
            int relation = "<=>".indexOf((char) sign());
            if (relation < 0) return false;
            at++;
            if (!readNumber()) return false;
            code(fact * 300 + relation * 100 + number);
            return true;
        }

        private void code(int one) {
            if (coded >= MOST_SIGNS) return;
            codes[coded] = one;
            coded++;
        }

        /** The n of all clauses with that word whose expression holds, together. */
        int total(int word, int[] facts) {
            int sum = 0;
            for (int clause = 0; clause < clauses; clause++) {
                if (words[clause] == word && holds(clause, facts)) sum += amounts[clause];
            }
            return sum;
        }

        private boolean holds(int clause, int[] facts) {
            int from = clause == 0 ? 0 : ends[clause - 1];
            // A pile of bits: six levels of ( with one | and one & waiting in each need 13.
            int pile = 0;
            for (int i = from; i < ends[clause]; i++) {
                int one = codes[i];
                if (one == NOT) pile ^= 1;
                else if (one == AND) pile = pile >> 1 & (pile | ~1);
                else if (one == OR) pile = pile >> 1 | pile & 1;
                else pile = pile << 1 | (isSo(one, facts) ? 1 : 0);
            }
            return (pile & 1) == 1;
        }

        private static boolean isSo(int test, int[] facts) {
            int fact = facts[test / 300];
            int with = test % 100;
            switch (test / 100 % 3) {
                case 0: return fact < with;
                case 1: return fact == with;
                default: return fact > with;
            }
        }
    }

    /** All that an image keeps. */
    static final class Scene {
        private static final int FACTS = 6, NOT_OF_HEAPS = 99, MOST_DRIFT = 5;

        final int[] tape = new int[MOST_SIGNS];
        int tapeSize;
        Hill hill = new Hill();
        int hills;
        long edges;
        int mist;
        int snow;
        final Heap[] heaps = new Heap[MOST_HEAPS];
        int heapCount;
        final int[] walk = new int[MOST_WALKED];
        int walkSize;
        final int[] book = new int[MOST_BOOKED];
        int bookSize;
        // Filled anew for each question, so an image leaves it out.
        private final int[] facts = new int[FACTS];

        void copyFrom(Scene other) {
            System.arraycopy(other.tape, 0, tape, 0, MOST_SIGNS);
            tapeSize = other.tapeSize;
            hill = other.hill;
            hills = other.hills;
            edges = other.edges;
            mist = other.mist;
            snow = other.snow;
            for (int i = 0; i < MOST_HEAPS; i++) heaps[i] = other.heaps[i];
            heapCount = other.heapCount;
            System.arraycopy(other.walk, 0, walk, 0, MOST_WALKED);
            walkSize = other.walkSize;
            System.arraycopy(other.book, 0, book, 0, MOST_BOOKED);
            bookSize = other.bookSize;
        }

        Heap heapAt(int number) {
            return number >= 0 && number < heapCount ? heaps[number] : null;
        }

        boolean areHeaps(int one, int other) {
            return heapAt(one) != null && heapAt(other) != null;
        }

        boolean isTaken(int cell) {
            for (int i = 0; i < heapCount; i++) {
                if (heaps[i].cell == cell) return true;
            }
            return false;
        }

        int reachOf(Heap heap, int withSnow) {
            tellFacts(heap.number, heap.kind, heap.cell, withSnow);
            int plain = hill.sight + hill.total(Hill.SEE, facts) - hill.total(Hill.HIDE, facts) - mist;
            return heap.reachBy(plain, withSnow);
        }

        int driftOn(int cell) {
            tellFacts(NOT_OF_HEAPS, NOT_OF_HEAPS, cell, snow);
            return Math.min(MOST_DRIFT, hill.total(Hill.DRIFT, facts));
        }

        /** In the order of the letters h k r c m s. */
        private void tellFacts(int number, int kind, int cell, int withSnow) {
            facts[0] = number;
            facts[1] = kind;
            facts[2] = rowOf(cell);
            facts[3] = columnOf(cell);
            facts[4] = mist;
            facts[5] = withSnow;
        }

        long cellsSeeing(int number) {
            Heap heap = heapAt(number);
            if (heap == null) return 0;
            int reach = reachOf(heap, snow);
            long cells = 0;
            for (int cell = 0; cell < CELLS; cell++) {
                if (apart(cell, heap.cell) <= reach) cells |= 1L << cell;
            }
            return cells;
        }
    }

    /** Who is seen from where, and so to which heaps one goes from which, with the snow last asked for. */
    static final class Goings {
        private final int[] reach = new int[MOST_HEAPS];
        private final int[] onward = new int[MOST_HEAPS];
        private int linked;
        private final Heap spare = new Heap(0, 0, 0, 0);

        void measure(Scene scene, int snow) {
            for (int i = 0; i < scene.heapCount; i++) reach[i] = scene.reachOf(scene.heaps[i], snow);
        }

        int seenFrom(Scene scene, int cell) {
            int bits = 0;
            for (int i = 0; i < scene.heapCount; i++) {
                if (apart(cell, scene.heaps[i].cell) <= reach[i]) bits |= 1 << i;
            }
            return bits;
        }

        void link(Scene scene, int snow) {
            measure(scene, snow);
            linked = scene.heapCount;
            for (int i = 0; i < linked; i++) {
                onward[i] = 0;
                for (int j = 0; j < linked; j++) tellGoing(scene.heaps[i], scene.heaps[j]);
            }
        }

        private void tellGoing(Heap from, Heap to) {
            boolean goes = from.number != to.number && apart(from.cell, to.cell) <= reach[to.number]
                && from.leadsTo(to.cell);
            int bit = 1 << to.number;
            onward[from.number] = goes ? onward[from.number] | bit : onward[from.number] & ~bit;
        }

        boolean isGoing(int one, int other) {
            return (onward[one] >> other & 1) == 1;
        }

        int fewest(int one, int other, int without) {
            if (one == other) return 0;
            int come = 1 << one;
            int newest = come;
            for (int step = 1; step < MOST_HEAPS && newest != 0; step++) {
                newest = onwardFrom(newest) & ~(come | without);
                if ((newest >> other & 1) == 1) return step;
                come |= newest;
            }
            return NOWHERE;
        }

        private int onwardFrom(int heaps) {
            int bits = 0;
            for (int i = 0; i < linked; i++) {
                if ((heaps >> i & 1) == 1) bits |= onward[i];
            }
            return bits;
        }

        int first(int one, int other) {
            int fewest = fewest(one, other, 0);
            if (fewest == NOWHERE || fewest == 0) return NOWHERE;
            for (int i = 0; i < linked; i++) {
                if (isGoing(one, i) && fewest(i, other, 0) == fewest - 1) return i;
            }
            return NOWHERE;
        }

        int breaks(int one, int other) {
            if (fewest(one, other, 0) == NOWHERE) return 0;
            int bits = 0;
            for (int i = 0; i < linked; i++) {
                if (i != one && i != other && fewest(one, other, 1 << i) == NOWHERE) bits |= 1 << i;
            }
            return bits;
        }

        int bestCell(Scene scene, int one, int other) {
            if (scene.heapCount >= MOST_HEAPS) return NOWHERE;
            link(scene, scene.snow);
            int least = fewest(one, other, 0);
            int best = NOWHERE;
            for (int cell = 0; cell < CELLS; cell++) {
                if (scene.isTaken(cell)) continue;
                join(scene, cell);
                int then = fewest(one, other, 0);
                if (then != NOWHERE && (least == NOWHERE || then < least)) {
                    least = then;
                    best = cell;
                }
            }
            return best;
        }

        /** As if a plain heap stood on that cell too, behind all others; link() has been asked for. */
        void join(Scene scene, int cell) {
            int number = scene.heapCount;
            if (number >= MOST_HEAPS) return;
            spare.number = number;
            spare.cell = cell;
            reach[number] = scene.reachOf(spare, scene.snow);
            linked = number + 1;
            for (int i = 0; i < number; i++) {
                tellGoing(scene.heaps[i], spare);
                tellGoing(spare, scene.heaps[i]);
            }
        }
    }

    /** Where one is behind so many steps, in how many of 20 times 20 .. times. */
    static final class Chances {
        private static final int TWENTY = 20;

        long foundTimes;
        private int foundRow;
        private final int[] drifts = new int[CELLS];
        private final long[][] times = new long[MOST_STEPS][CELLS];
        private final int[][] hits = new int[WAYS][CELLS];

        static long timesOf(int steps) {
            long product = 1;
            for (int step = 0; step < steps; step++) product *= TWENTY;
            return product;
        }

        /** How often one is on one of these cells at the end of the walk. */
        long walked(Scene scene, int cell, long cells) {
            begin(scene, cell);
            for (int step = 0; step < scene.walkSize; step++) {
                spread(scene, times[step & 1], scene.walk[step], times[step + 1 & 1]);
            }
            long[] last = times[scene.walkSize & 1];
            long sum = 0;
            for (int at = 0; at < CELLS; at++) {
                if (isIn(cells, at)) sum += last[at];
            }
            return sum;
        }

        private void begin(Scene scene, int cell) {
            for (int at = 0; at < CELLS; at++) {
                drifts[at] = scene.driftOn(at);
                times[0][at] = at == cell ? 1 : 0;
            }
        }

        private void spread(Scene scene, long[] from, int way, long[] to) {
            for (int cell = 0; cell < CELLS; cell++) to[cell] = 0;
            for (int cell = 0; cell < CELLS; cell++) {
                long often = from[cell];
                if (often == 0) continue;
                if (isIn(scene.edges, cell)) {
                    to[cell] += often * TWENTY;
                    continue;
                }
                int drift = drifts[cell];
                to[besideOrSame(cell, way)] += often * (TWENTY - 2 * drift);
                to[besideOrSame(cell, way + 7 & 7)] += often * drift;
                to[besideOrSame(cell, way + 1 & 7)] += often * drift;
            }
        }

        /** Finds the first row of n ways by which one is most often on one of these cells at its end. */
        void search(Scene scene, int cell, long cells, int n) {
            begin(scene, cell);
            tellHits(scene, cells);
            foundTimes = -1;
            int ahead = n - 1;
            for (int row = 0; row < 1 << 3 * ahead; row++) {
                for (int level = 0; level < ahead; level++) {
                    int behind = 3 * (ahead - 1 - level);
                    // A way changes only when all ways behind it begin anew.
                    boolean isNew = (row & (1 << behind) - 1) == 0;
                    if (isNew) spread(scene, times[level], row >> behind & 7, times[level + 1]);
                }
                tryLast(times[ahead], row);
            }
        }

        /** In how many of twenty times the last step comes to one of these cells. */
        private void tellHits(Scene scene, long cells) {
            for (int way = 0; way < WAYS; way++) {
                for (int cell = 0; cell < CELLS; cell++) {
                    hits[way][cell] = isIn(scene.edges, cell)
                        ? TWENTY * hit(cells, cell)
                        : (TWENTY - 2 * drifts[cell]) * hit(cells, besideOrSame(cell, way))
                            + drifts[cell] * hit(cells, besideOrSame(cell, way + 7 & 7))
                            + drifts[cell] * hit(cells, besideOrSame(cell, way + 1 & 7));
                }
            }
        }

        private static int hit(long cells, int cell) {
            return isIn(cells, cell) ? 1 : 0;
        }

        private void tryLast(long[] from, int row) {
            for (int way = 0; way < WAYS; way++) {
                long sum = 0;
                for (int cell = 0; cell < CELLS; cell++) sum += from[cell] * hits[way][cell];
                if (sum > foundTimes) {
                    foundTimes = sum;
                    foundRow = row * WAYS + way;
                }
            }
        }

        int foundWay(int n, int k) {
            return foundRow >> 3 * (n - 1 - k) & 7;
        }
    }
}
