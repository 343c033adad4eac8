import java.math.BigInteger;
import java.util.ArrayList;
import java.util.LinkedHashSet;
import java.util.List;
import java.util.Set;

/**
 * The document once more, written another way and as slowly as it likes: texts are kept as texts,
 * a fault is where a set of open derivations runs dry, chances are trees, bodies are looked up in a table.
 */
final class Model {
    static final int NONE = -1, BAD = -2, STATE = -3, FULL = -4;
    static final long NO = Long.MIN_VALUE;
    private static final int NEVER = 1000;
    private static final int[][] WAY = {{-1, 0}, {-1, 1}, {0, 1}, {1, 1}, {1, 0}, {1, -1}, {0, -1}, {-1, -1}};
    private static final int[] ABOVE = {-1, 0, 0, 0, 1, 2, 3};

    private static final class All {
        String tape = "";
        List<String> hills = new ArrayList<>();
        boolean[] edges = new boolean[36];
        int[] weather = new int[2];
        List<int[]> heaps = new ArrayList<>();
        List<Integer> walk = new ArrayList<>();
        List<Integer> book = new ArrayList<>();

        All copy() {
            All other = new All();
            other.tape = tape;
            other.hills = new ArrayList<>(hills);
            other.edges = edges.clone();
            other.weather = weather.clone();
            other.heaps = new ArrayList<>(heaps);
            other.walk = new ArrayList<>(walk);
            other.book = new ArrayList<>(book);
            return other;
        }
    }

    private All all = new All();
    private All image = null;
    private final List<Integer> trace = new ArrayList<>();

    int feed(int sign) {
        if (sign < 0 || sign > 127) return BAD;
        if (all.tape.length() == 100) return FULL;
        all.tape += (char) sign;
        return all.tape.length();
    }

    int hill() {
        if (all.hills.size() == 5) return FULL;
        String text = all.tape;
        all.tape = "";
        int fault = faultOf(text);
        if (fault >= 0) return -10 - fault;
        all.hills.add(text);
        return all.hills.size() - 1;
    }

    // A derivation is a text of what must still come: H clauses (the digit behind: how many there were),
    // N a number, D a digit or nothing, E T F as in the document, ^ the end of what is open, others themselves.
    static int faultOf(String text) {
        Set<String> open = atFirst();
        for (int i = 0; i < text.length(); i++) {
            open = behind(open, text.charAt(i));
            if (open.isEmpty()) return i;
        }
        return canEnd(open) ? -1 : text.length();
    }

    static Set<String> atFirst() {
        return Set.of("H0");
    }

    /** What is still open behind one sign more; none, if no hill goes on with it. */
    static Set<String> behind(Set<String> open, char sign) {
        Set<String> then = new LinkedHashSet<>();
        for (String one : open) eat(one, sign, then);
        return then;
    }

    static boolean canEnd(Set<String> open) {
        for (String one : open) {
            if (one.replace("^", "").replace("D", "").isEmpty()) return true;
        }
        return false;
    }

    private static void eat(String rest, char sign, Set<String> then) {
        if (rest.isEmpty()) return;
        char first = rest.charAt(0);
        String more = rest.substring(1);
        switch (first) {
            case 'H': {
                int had = more.charAt(0) - '0';
                List<String> ends = new ArrayList<>(List.of(""));
                if (had < 9) ends.add(";H" + (had + 1));
                for (String end : ends) {
                    for (String clause : List.of("see N E", "hide N E", "sight N", "drift N E")) {
                        eat(clause + end, sign, then);
                    }
                }
                break;
            }
            case 'N':
                if (sign == '0') then.add(more);
                if (sign >= '1' && sign <= '9') then.add("D" + more);
                break;
            case 'D':
                if (sign >= '0' && sign <= '9') then.add(more);
                eat(more, sign, then);
                break;
            case 'E':
                eat("T" + more, sign, then);
                eat("T|E" + more, sign, then);
                break;
            case 'T':
                eat("F" + more, sign, then);
                eat("F&T" + more, sign, then);
                break;
            case 'F':
                if ("hkrcms".indexOf(sign) >= 0) {
                    then.add("<N" + more);
                    then.add("=N" + more);
                    then.add(">N" + more);
                }
                if (more.chars().filter(c -> c == '^').count() >= 5) break;
                if (sign == '!') then.add("F^" + more);
                if (sign == '(') then.add("E)^" + more);
                break;
            case '^':
                eat(more, sign, then);
                break;
            default:
                if (sign == first) then.add(more);
        }
    }

    private List<String[]> clauses() {
        List<String[]> parts = new ArrayList<>();
        if (all.hills.isEmpty()) return parts;
        for (String clause : all.hills.get(all.hills.size() - 1).split(";")) parts.add(clause.split(" "));
        return parts;
    }

    private int sight() {
        int sight = 3;
        for (String[] clause : clauses()) {
            if (clause[0].equals("sight")) sight = Integer.parseInt(clause[1]);
        }
        return sight;
    }

    private int sum(String word, int h, int k, int cell, int snow) {
        int sum = 0;
        for (String[] clause : clauses()) {
            if (!clause[0].equals(word)) continue;
            if (holds(clause[2], new int[] {h, k, cell / 6, cell % 6, all.weather[0], snow})) {
                sum += Integer.parseInt(clause[1]);
            }
        }
        return sum;
    }

    private static int outside(String text, char sign) {
        int depth = 0;
        for (int i = 0; i < text.length(); i++) {
            char c = text.charAt(i);
            if (c == '(') depth++;
            if (c == ')') depth--;
            if (c == sign && depth == 0) return i;
        }
        return -1;
    }

    private static boolean holds(String text, int[] facts) {
        for (char joint : new char[] {'|', '&'}) {
            int at = outside(text, joint);
            if (at < 0) continue;
            boolean left = holds(text.substring(0, at), facts);
            boolean right = holds(text.substring(at + 1), facts);
            return joint == '|' ? left || right : left && right;
        }
        if (text.charAt(0) == '!') return !holds(text.substring(1), facts);
        if (text.charAt(0) == '(') return holds(text.substring(1, text.length() - 1), facts);
        int compared = Integer.compare(facts["hkrcms".indexOf(text.charAt(0))], Integer.parseInt(text.substring(2)));
        return text.charAt(1) == (compared < 0 ? '<' : compared > 0 ? '>' : '=');
    }

    int edges(long cells) {
        if (cells < 0 || cells >= 1L << 36) return BAD;
        int were = told(3);
        for (int i = 0; i < 36; i++) all.edges[i] = (cells & 1L << i) != 0;
        return were;
    }

    int set(int what, int n) {
        if (what != 0 && what != 1) return NONE;
        if (n < 0 || n > 9) return BAD;
        int was = all.weather[what];
        all.weather[what] = n;
        return was;
    }

    int told(int what) {
        if (what == 0 || what == 1) return all.weather[what];
        if (what == 2) return sight();
        if (what != 3) return NONE;
        int many = 0;
        for (boolean edge : all.edges) many += edge ? 1 : 0;
        return many;
    }

    private boolean isHeap(int heap) {
        return heap >= 0 && heap < all.heaps.size();
    }

    private static boolean isCell(int cell) {
        return cell >= 0 && cell < 36;
    }

    int heap(int kind, int v, int cell) {
        if (kind < 0 || kind > 6 || !isCell(cell)) return NONE;
        if (v < 0 || v > 9) return BAD;
        for (int[] one : all.heaps) {
            if (one[2] == cell) return STATE;
        }
        if (all.heaps.size() == 8) return FULL;
        all.heaps.add(new int[] {kind, v, cell});
        return all.heaps.size() - 1;
    }

    int of(int heap, int what) {
        if (!isHeap(heap) || what < 0 || what > 3) return NONE;
        return what < 3 ? all.heaps.get(heap)[what] : reach(all.heaps, heap, all.weather[1]);
    }

    private int reach(List<int[]> heaps, int heap, int snow) {
        int kind = heaps.get(heap)[0];
        int v = heaps.get(heap)[1];
        int cell = heaps.get(heap)[2];
        int reach = sight() + sum("see", heap, kind, cell, snow) - sum("hide", heap, kind, cell, snow) - all.weather[0];
        if (kind == 1 || kind == 4) reach += v / 3;
        if (kind == 2 || kind == 5) reach -= 1;
        if (reach < 0) reach = 0;
        if (kind == 5 && snow > v) reach = 0;
        if (kind == 6 && reach > 1) reach = 1;
        return reach;
    }

    private static int apart(int one, int other) {
        int rows = Math.abs(one / 6 - other / 6);
        int columns = Math.abs(one % 6 - other % 6);
        return rows > columns ? rows : columns;
    }

    private boolean isSeen(List<int[]> heaps, int heap, int cell, int snow) {
        return apart(heaps.get(heap)[2], cell) <= reach(heaps, heap, snow);
    }

    int sees(int cell) {
        if (!isCell(cell)) return NONE;
        int bits = 0;
        for (int i = 0; i < all.heaps.size(); i++) bits += isSeen(all.heaps, i, cell, all.weather[1]) ? 1 << i : 0;
        return bits;
    }

    long where(int set) {
        if ((set & -1 << all.heaps.size()) != 0) return NO;
        long cells = 0;
        for (int cell = 0; cell < 36; cell++) cells += sees(cell) == set ? 1L << cell : 0;
        return cells;
    }

    private boolean goes(List<int[]> heaps, int one, int other, int snow) {
        if (one == other) return false;
        int[] from = heaps.get(one);
        int to = heaps.get(other)[2];
        if (from[0] == 3 || from[0] == 6 || !isSeen(heaps, other, from[2], snow)) return false;
        if (from[0] != 4) return true;
        int[] way = WAY[from[1] % 8];
        int down = Integer.signum(to / 6 - from[2] / 6);
        int right = Integer.signum(to % 6 - from[2] % 6);
        return (way[0] == 0 || way[0] == down) && (way[1] == 0 || way[1] == right);
    }

    /** All pairs at once; by no row that goes through the heap 'without'. */
    private int[][] fewest(List<int[]> heaps, int snow, int without) {
        int many = heaps.size();
        int[][] fewest = new int[many][many];
        for (int i = 0; i < many; i++) {
            for (int j = 0; j < many; j++) fewest[i][j] = i == j ? 0 : goes(heaps, i, j, snow) ? 1 : NEVER;
        }
        for (int by = 0; by < many; by++) {
            if (by == without) continue;
            for (int i = 0; i < many; i++) {
                for (int j = 0; j < many; j++) fewest[i][j] = Math.min(fewest[i][j], fewest[i][by] + fewest[by][j]);
            }
        }
        return fewest;
    }

    private static int orNone(int steps) {
        return steps >= NEVER ? -5 : steps;
    }

    int steps(int one, int other) {
        if (!isHeap(one) || !isHeap(other)) return NONE;
        return orNone(fewest(all.heaps, all.weather[1], -1)[one][other]);
    }

    int via(int one, int other) {
        int steps = steps(one, other);
        if (steps < 0) return steps;
        for (int i = 0; i < all.heaps.size() && one != other; i++) {
            if (goes(all.heaps, one, i, all.weather[1]) && steps(i, other) == steps - 1) return i;
        }
        return -5;
    }

    int cuts(int one, int other) {
        int steps = steps(one, other);
        if (steps == NONE) return NONE;
        int bits = 0;
        for (int i = 0; i < all.heaps.size() && steps > 0; i++) {
            if (i == one || i == other) continue;
            if (fewest(all.heaps, all.weather[1], i)[one][other] >= NEVER) bits |= 1 << i;
        }
        return bits;
    }

    int bears(int one, int other) {
        if (!isHeap(one) || !isHeap(other)) return NONE;
        int most = -5;
        for (int snow = 0; snow <= 9; snow++) {
            if (fewest(all.heaps, snow, -1)[one][other] < NEVER) most = snow;
        }
        return most;
    }

    int build(int one, int other, int what) {
        if (!isHeap(one) || !isHeap(other) || what < 0 || what > 1) return NONE;
        if (all.heaps.size() == 8) return -5;
        int least = fewest(all.heaps, all.weather[1], -1)[one][other];
        int best = -5;
        for (int cell = 0; cell < 36; cell++) {
            int there = cell;
            if (all.heaps.stream().anyMatch(heap -> heap[2] == there)) continue;
            List<int[]> more = new ArrayList<>(all.heaps);
            more.add(new int[] {0, 0, cell});
            int then = fewest(more, all.weather[1], -1)[one][other];
            if (then < Math.min(least, NEVER)) {
                least = then;
                best = cell;
            }
        }
        return best == -5 || what == 0 ? best : least;
    }

    int drift(int cell) {
        return isCell(cell) ? Math.min(5, sum("drift", 99, 99, cell, all.weather[1])) : NONE;
    }

    int walk(int way) {
        if (way < -1 || way > 7) return NONE;
        if (way == -1) all.walk.clear();
        else if (all.walk.size() == 6) return FULL;
        else all.walk.add(way);
        return all.walk.size();
    }

    /** By a tree of all that may come, how often of 20 to so many one ends on each cell. */
    private void ends(int cell, List<Integer> ways, int step, long times, int[] drifts, long[] ends) {
        if (step == ways.size()) {
            ends[cell] += times;
            return;
        }
        if (all.edges[cell]) {
            ends(cell, ways, step + 1, times * 20, drifts, ends);
            return;
        }
        int drift = drifts[cell];
        for (int turn = -1; turn <= 1; turn++) {
            long part = turn == 0 ? 20 - 2 * drift : drift;
            if (part == 0) continue;
            int[] way = WAY[Math.floorMod(ways.get(step) + turn, 8)];
            int row = cell / 6 + way[0];
            int column = cell % 6 + way[1];
            boolean there = row >= 0 && row <= 5 && column >= 0 && column <= 5;
            ends(there ? 6 * row + column : cell, ways, step + 1, times * part, drifts, ends);
        }
    }

    private long[] ends(int cell, List<Integer> ways) {
        int[] drifts = new int[36];
        for (int i = 0; i < 36; i++) drifts[i] = drift(i);
        long[] ends = new long[36];
        ends(cell, ways, 0, 1, drifts, ends);
        return ends;
    }

    private static long part(long times, int steps, int part) {
        BigInteger above = BigInteger.valueOf(times);
        BigInteger below = BigInteger.valueOf(20).pow(steps);
        return (part == 0 ? above : below).divide(above.gcd(below)).longValueExact();
    }

    private long over(long[] ends) {
        long over = 0;
        for (int i = 0; i < 36; i++) over += all.edges[i] ? ends[i] : 0;
        return over;
    }

    long odds(int cell, int what, int part) {
        if (!isCell(cell) || part < 0 || part > 1) return NO;
        if (!isCell(what) && what != 40 && (what < 50 || !isHeap(what - 50))) return NO;
        long[] ends = ends(cell, all.walk);
        long times = 0;
        if (isCell(what)) times = ends[what];
        else if (what == 40) times = over(ends);
        else {
            for (int i = 0; i < 36; i++) {
                if (!all.edges[i] && isSeen(all.heaps, what - 50, i, all.weather[1])) times += ends[i];
            }
        }
        return part(times, all.walk.size(), part);
    }

    private static List<List<Integer>> rows(int n) {
        List<List<Integer>> rows = new ArrayList<>();
        if (n == 0) {
            rows.add(List.of());
            return rows;
        }
        for (List<Integer> ahead : rows(n - 1)) {
            for (int way = 0; way < 8; way++) {
                List<Integer> row = new ArrayList<>(ahead);
                row.add(way);
                rows.add(row);
            }
        }
        return rows;
    }

    int best(int cell, int other, int n, int k) {
        if (!isCell(cell) || !isCell(other) || k < 0 || k > 2) return NONE;
        if (n < 1 || n > 3) return BAD;
        if (k >= n) return NONE;
        List<Integer> best = null;
        long most = -1;
        for (List<Integer> row : rows(n)) {
            long times = ends(cell, row)[other];
            if (times > most) {
                most = times;
                best = row;
            }
        }
        return best.get(k);
    }

    long bestOdds(int cell, int other, int n, int part) {
        if (!isCell(cell) || !isCell(other) || n < 1 || n > 3 || part < 0 || part > 1) return NO;
        long most = 0;
        for (List<Integer> row : rows(n)) most = Math.max(most, ends(cell, row)[other]);
        return part(most, n, part);
    }

    int safe(int cell, int n, int k) {
        if (!isCell(cell) || k < 0 || k > 2) return NONE;
        if (n < 1 || n > 3) return BAD;
        if (k >= n) return NONE;
        List<Integer> best = null;
        long least = Long.MAX_VALUE;
        for (List<Integer> row : rows(n)) {
            long times = over(ends(cell, row));
            if (times < least) {
                least = times;
                best = row;
            }
        }
        return best.get(k);
    }

    int line(int heap, int n) {
        if (!isHeap(heap)) return NONE;
        if (n < 1 || n > 9) return BAD;
        int far = 0;
        for (int who = 2; who <= n; who++) far += Math.max(sight() - all.weather[0], 0);
        int bits = 0;
        for (int i = 0; i < all.heaps.size(); i++) {
            if (i != heap && apart(all.heaps.get(i)[2], all.heaps.get(heap)[2]) <= far) bits += 1 << i;
        }
        return bits;
    }

    int next(int a, int b, int c) {
        if (!isHeap(a) || !isHeap(b) || !isHeap(c)) return NONE;
        int one = all.heaps.get(a)[2];
        int two = all.heaps.get(b)[2];
        int three = all.heaps.get(c)[2];
        for (int cell = 0; cell < 36; cell++) {
            boolean row = cell / 6 == 3 * (three / 6 - two / 6) + one / 6;
            boolean column = cell % 6 == 3 * (three % 6 - two % 6) + one % 6;
            if (row && column) return cell;
        }
        return -5;
    }

    int book(int heap) {
        if (heap == -1) {
            all.book.clear();
            return 0;
        }
        if (!isHeap(heap)) return NONE;
        if (all.book.size() == 12) return FULL;
        all.book.add(heap);
        return all.book.size();
    }

    int looked() {
        for (int i = 0; i + 1 < all.book.size(); i++) {
            if (!goes(all.heaps, all.book.get(i), all.book.get(i + 1), all.weather[1])) return all.book.get(i + 1);
        }
        return -5;
    }

    int act(int heap, int act, int x) {
        trace.clear();
        if (!isHeap(heap) || act < 0 || act > 2) return 0;
        return run(heap, act, all.heaps.get(heap)[0], x);
    }

    /** The body of that act from the kind on, upwards. */
    private int run(int heap, int act, int from, int x) {
        int own = all.heaps.get(heap)[0];
        int v = all.heaps.get(heap)[1];
        int kind = from;
        List<Integer> bodies = List.of(1, 2, 3, 11, 22, 33, 43, 51, 62);
        while (kind != 0 && !bodies.contains(10 * kind + act + 1)) kind = ABOVE[kind];
        int body = 10 * kind + act + 1;
        int number = List.of(1, 2, 3, 11, 21, 31, 41, 51, 61).get(bodies.indexOf(body));
        if (trace.size() < 20) trace.add(number);
        switch (number) {
            case 1: return x + heap;
            case 2: return run(heap, 0, own, x) - v;
            case 3: return run(heap, 1, own, x) * 2;
            case 11: return run(heap, 0, 0, x * 3);
            case 21: return -run(heap, 1, 0, x);
            case 31: return run(heap, 2, 0, x) ^ 7;
            case 41: return run(heap, 2, 1, x - 1) + run(heap, 0, own, 2);
            case 51: return run(heap, 0, 2, x) ^ heap;
            default: return run(heap, 1, 3, x) + v;
        }
    }

    int trace(int i) {
        return i < 0 || i >= trace.size() ? NONE : trace.get(i);
    }

    int as(int heap, int k) {
        if (!isHeap(heap) || k < 0 || k > 6) return NONE;
        int kind = all.heaps.get(heap)[0];
        boolean is = k == 0 || kind == k || k <= 3 && kind == k + 3;
        return is ? all.heaps.get(heap)[1] : -6;
    }

    int image() {
        image = all.copy();
        return all.heaps.size();
    }

    int undo() {
        if (image == null) return STATE;
        all = image.copy();
        return all.heaps.size();
    }

    int count(int what) {
        switch (what) {
            case 0: return all.heaps.size();
            case 1: return all.hills.size();
            case 2: return all.walk.size();
            case 3: return all.book.size();
            case 4: return all.tape.length();
            case 5: return trace.size();
            default: return NONE;
        }
    }
}
