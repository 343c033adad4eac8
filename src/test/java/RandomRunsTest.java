import java.util.Random;

/** Many runs of calls by chance, always the same ones, answered by the class and by the model. */
public final class RandomRunsTest {
    private static final String SIGNS = "seehidrftg 0123456789hkrcms<=>!()&|;";
    private final Random random;
    private final int seed;
    private final MistHeaps x = new MistHeaps();
    private final Model y = new Model();

    private RandomRunsTest(int seed) {
        this.seed = seed;
        this.random = new Random(seed);
    }

    public static void main(String[] args) {
        for (int seed = 0; seed < 600; seed++) new RandomRunsTest(seed).run();
        faults();
        Checks.end("RandomRunsTest");
    }

    /** Texts alone, each a new object's: faults and their places. */
    private static void faults() {
        for (int seed = 0; seed < 20000; seed++) {
            RandomRunsTest texts = new RandomRunsTest(seed);
            String text = texts.text();
            int fault = Model.faultOf(text);
            Checks.due("hill() of " + text, Checks.hill(text), fault < 0 ? 0 : -10 - fault);
        }
    }

    private int upTo(int most) {
        return random.nextInt(most + 1);
    }

    /** Mostly 0 .. most, now and then a little or far beyond. */
    private int about(int most) {
        switch (random.nextInt(40)) {
            case 0: return -1;
            case 1: return most + 1;
            case 2: return random.nextBoolean() ? -2 : most + 2 + random.nextInt(20);
            case 3: return random.nextInt(4) > 0 ? upTo(most) : random.nextInt();
            default: return upTo(most);
        }
    }

    private String number() {
        return String.valueOf(random.nextInt(3) > 0 ? upTo(6) : upTo(99));
    }

    private String expression(int depth) {
        StringBuilder text = new StringBuilder();
        int parts = 1 + random.nextInt(5) / 3;
        for (int i = 0; i < parts; i++) {
            if (i > 0) text.append(random.nextBoolean() ? '|' : '&');
            switch (depth >= 6 ? 9 : random.nextInt(10)) {
                case 0: case 1: text.append('!').append(plain(depth + 1)); break;
                case 2: case 3: text.append('(').append(expression(depth + 1)).append(')'); break;
                default: text.append(test());
            }
        }
        return text.toString();
    }

    private String plain(int depth) {
        switch (depth >= 7 ? 9 : random.nextInt(5)) {
            case 0: return "!" + plain(depth + 1);
            case 1: return "(" + expression(depth + 1) + ")";
            default: return test();
        }
    }

    private String test() {
        return "" + "hkrcms".charAt(random.nextInt(6)) + "<=>".charAt(random.nextInt(3)) + number();
    }

    private String clause() {
        String n = random.nextInt(4) == 0 ? number() : String.valueOf(upTo(3));
        switch (random.nextInt(8)) {
            case 0: case 1: case 2: return "see " + n + " " + expression(0);
            case 3: case 4: return "hide " + n + " " + expression(0);
            case 5: return "sight " + n;
            default: return "drift " + n + " " + expression(0);
        }
    }

    private String text() {
        StringBuilder text = new StringBuilder(clause());
        int more = random.nextInt(3) == 0 ? random.nextInt(11) : random.nextInt(4);
        for (int i = 0; i < more; i++) {
            text.append(';').append(more > 5 && random.nextInt(9) > 0 ? "sight " + upTo(4) : clause());
        }
        if (text.length() > 100) text.setLength(random.nextBoolean() ? 100 : Math.max(1, text.lastIndexOf(";")));
        if (text.length() > 100) text.setLength(100);
        int errors = random.nextInt(4) == 0 ? 1 + random.nextInt(2) : 0;
        for (int i = 0; i < errors && text.length() > 1; i++) spoil(text);
        return text.toString();
    }

    private void spoil(StringBuilder text) {
        int at = random.nextInt(text.length());
        char sign = random.nextInt(8) == 0 ? (char) random.nextInt(128)
            : SIGNS.charAt(random.nextInt(SIGNS.length()));
        switch (random.nextInt(4)) {
            case 0: text.deleteCharAt(at); break;
            case 1: if (text.length() < 100) text.insert(at, sign); break;
            case 2: text.setLength(at); break;
            default: text.setCharAt(at, sign);
        }
    }

    private void run() {
        boolean early = seed % 3 == 0;
        for (int calls = 0; calls < 512; calls++) {
            if (!early && calls == 20 || random.nextInt(60) == 0) calls += read();
            else call(random.nextInt(40));
        }
        for (int what = -1; what <= 6; what++) Checks.due(name("count", what), x.count(what), y.count(what));
    }

    private int read() {
        String text = text();
        for (int i = 0; i < text.length(); i++) {
            int sign = text.charAt(i);
            Checks.due(name("feed", sign), x.feed(sign), y.feed(sign));
        }
        Checks.due(name("hill") + " of " + text, x.hill(), y.hill());
        return text.length();
    }

    private String name(String call, long... with) {
        StringBuilder text = new StringBuilder("seed " + seed + ": " + call + "(");
        for (int i = 0; i < with.length; i++) text.append(i == 0 ? "" : ", ").append(with[i]);
        return text.append(")").toString();
    }

    private void call(int which) {
        if (which < 20) change(which);
        else if (which < 30) ask(which);
        else askChances(which);
    }

    private void change(int which) {
        int a = 0;
        int b = 0;
        switch (which) {
            case 0:
                a = about(127);
                Checks.due(name("feed", a), x.feed(a), y.feed(a));
                break;
            case 1:
                if (random.nextInt(8) == 0) Checks.due(name("hill"), x.hill(), y.hill());
                break;
            case 2: case 3: {
                long cells = random.nextLong() & random.nextLong() & random.nextLong() & (1L << 36) - 1;
                if (random.nextInt(20) == 0) cells = random.nextLong();
                if (random.nextInt(20) == 0) cells |= 1L << 36;
                Checks.due(name("edges", cells), x.edges(cells), y.edges(cells));
                break;
            }
            case 4: case 5:
                a = about(1);
                b = random.nextBoolean() ? about(9) : about(2);
                Checks.due(name("set", a, b), x.set(a, b), y.set(a, b));
                break;
            case 6: case 7: case 8: {
                int c = about(35);
                a = about(6);
                b = about(9);
                Checks.due(name("heap", a, b, c), x.heap(a, b, c), y.heap(a, b, c));
                break;
            }
            case 9: case 10: case 11:
                a = random.nextInt(20) == 0 ? -1 : about(7);
                Checks.due(name("walk", a), x.walk(a), y.walk(a));
                break;
            case 12: case 13: case 14: case 15:
                a = about(Math.max(0, y.count(0) - 1));
                Checks.due(name("book", a), x.book(a), y.book(a));
                break;
            case 16:
                if (random.nextInt(3) == 0) Checks.due(name("image"), x.image(), y.image());
                break;
            case 17:
                if (random.nextInt(3) == 0) Checks.due(name("undo"), x.undo(), y.undo());
                break;
            default: {
                int c = random.nextBoolean() ? random.nextInt() : about(9);
                a = about(7);
                b = about(2);
                Checks.due(name("act", a, b, c), x.act(a, b, c), y.act(a, b, c));
                for (int i = -1; i < 9; i++) Checks.due(name("trace", i), x.trace(i), y.trace(i));
                Checks.due(name("count", 5), x.count(5), y.count(5));
            }
        }
    }

    private void ask(int which) {
        int a = about(Math.max(0, y.count(0) - 1));
        int b = about(Math.max(0, y.count(0) - 1));
        int c = about(Math.max(0, y.count(0) - 1));
        int what = about(3);
        switch (which) {
            case 20: Checks.due(name("told", what), x.told(what), y.told(what)); break;
            case 21: Checks.due(name("of", a, what), x.of(a, what), y.of(a, what)); break;
            case 22: {
                int cell = about(35);
                Checks.due(name("sees", cell), x.sees(cell), y.sees(cell));
                int set = random.nextInt(3) > 0 && y.sees(cell) >= 0 ? y.sees(cell) : about(255);
                Checks.due(name("where", set), x.where(set), y.where(set));
                break;
            }
            case 23: Checks.due(name("steps", a, b), x.steps(a, b), y.steps(a, b)); break;
            case 24: Checks.due(name("via", a, b), x.via(a, b), y.via(a, b)); break;
            case 25: Checks.due(name("cuts", a, b), x.cuts(a, b), y.cuts(a, b)); break;
            case 26: Checks.due(name("bears", a, b), x.bears(a, b), y.bears(a, b)); break;
            case 27: {
                int which01 = about(1);
                Checks.due(name("build", a, b, which01), x.build(a, b, which01), y.build(a, b, which01));
                break;
            }
            case 28: Checks.due(name("looked"), x.looked(), y.looked()); break;
            default: Checks.due(name("next", a, b, c), x.next(a, b, c), y.next(a, b, c));
        }
    }

    private void askChances(int which) {
        int a = about(35);
        int b = about(35);
        int n = random.nextInt(3) == 0 ? about(3) : 1 + random.nextInt(2);
        int k = about(2);
        int part = about(1);
        switch (which) {
            case 30: Checks.due(name("drift", a), x.drift(a), y.drift(a)); break;
            case 31: case 32: case 33: {
                int what = random.nextInt(4) == 0 ? 40 : random.nextInt(3) == 0 ? 50 + about(7) : about(58);
                Checks.due(name("odds", a, what, part), x.odds(a, what, part), y.odds(a, what, part));
                break;
            }
            case 34: Checks.due(name("best", a, b, n, k), x.best(a, b, n, k), y.best(a, b, n, k)); break;
            case 35: Checks.due(name("bestOdds", a, b, n, part), x.bestOdds(a, b, n, part), y.bestOdds(a, b, n, part)); break;
            case 36: Checks.due(name("safe", a, n, k), x.safe(a, n, k), y.safe(a, n, k)); break;
            case 37: {
                int heap = about(7);
                int people = about(9);
                Checks.due(name("line", heap, people), x.line(heap, people), y.line(heap, people));
                break;
            }
            case 38: {
                int heap = about(7);
                int kind = about(6);
                Checks.due(name("as", heap, kind), x.as(heap, kind), y.as(heap, kind));
                break;
            }
            default: {
                int what = about(5);
                Checks.due(name("count", what), x.count(what), y.count(what));
            }
        }
    }
}
