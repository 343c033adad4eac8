import java.util.Random;

/** Scenes by chance, always the same ones, with many heaps, drift and edges, about which all that can be asked is asked. */
public final class RandomScenesTest {
    private final Random random;
    private final int seed;
    private final MistHeaps x = new MistHeaps();
    private final Model y = new Model();

    private RandomScenesTest(int seed) {
        this.seed = seed;
        this.random = new Random(seed);
    }

    public static void main(String[] args) {
        for (int seed = 0; seed < 80; seed++) {
            RandomScenesTest scene = new RandomScenesTest(seed);
            scene.make();
            scene.askOfRows();
            scene.askOfChances();
        }
        Checks.end("RandomScenesTest");
    }

    private void due(String call, long got, long want) {
        Checks.due("scene " + seed + ": " + call, got, want);
    }

    private String test() {
        String[] tests = {"h<4", "h>5", "k=0", "k>2", "r<3", "r=2", "c>2", "c=1", "s>4", "s<7", "m=1", "!m>0"};
        return tests[random.nextInt(tests.length)];
    }

    private String expression() {
        switch (random.nextInt(5)) {
            case 0: return test() + "|" + test();
            case 1: return test() + "&" + test() + "|" + test();
            case 2: return "(" + test() + "|" + test() + ")&" + test();
            case 3: return "!(" + test() + "&!" + test() + ")";
            default: return test();
        }
    }

    private void make() {
        StringBuilder text = new StringBuilder("sight " + (1 + random.nextInt(3)));
        String[] words = {"see", "hide", "drift", "drift"};
        for (int i = random.nextInt(5); i > 0; i--) {
            String clause = ";" + words[random.nextInt(4)] + " " + (1 + random.nextInt(3)) + " " + expression();
            if (text.length() + clause.length() <= 100) text.append(clause);
        }
        for (char sign : text.toString().toCharArray()) due("feed", x.feed(sign), y.feed(sign));
        due("hill of " + text, x.hill(), y.hill());
        long edges = random.nextLong() & random.nextLong() & (1L << 36) - 1;
        if (random.nextBoolean()) edges &= random.nextLong();
        due("edges", x.edges(edges), y.edges(edges));
        int mist = random.nextInt(4) / 2;
        int snow = random.nextInt(10);
        due("set", x.set(0, mist), y.set(0, mist));
        due("set", x.set(1, snow), y.set(1, snow));
        for (int i = 3 + random.nextInt(10); i > 0; i--) {
            int kind = random.nextInt(3) == 0 ? random.nextInt(7) : new int[] {0, 0, 1, 2, 4, 5}[random.nextInt(6)];
            int v = random.nextInt(10);
            int cell = random.nextInt(36);
            due("heap", x.heap(kind, v, cell), y.heap(kind, v, cell));
        }
        for (int i = random.nextInt(7); i > 0; i--) {
            int way = random.nextInt(8);
            due("walk", x.walk(way), y.walk(way));
        }
    }

    private void askOfRows() {
        int many = y.count(0);
        for (int one = 0; one < many; one++) {
            due("reach of " + one, x.of(one, 3), y.of(one, 3));
            for (int other = 0; other < many; other++) {
                String pair = one + ", " + other;
                due("steps " + pair, x.steps(one, other), y.steps(one, other));
                due("via " + pair, x.via(one, other), y.via(one, other));
                due("cuts " + pair, x.cuts(one, other), y.cuts(one, other));
                due("bears " + pair, x.bears(one, other), y.bears(one, other));
                due("build " + pair, x.build(one, other, 0), y.build(one, other, 0));
                due("build, steps " + pair, x.build(one, other, 1), y.build(one, other, 1));
                x.book(-1);
                y.book(-1);
                due("book", x.book(one) + x.book(other), y.book(one) + y.book(other));
                due("looked " + pair, x.looked(), y.looked());
                for (int third = 0; third < many; third++) {
                    due("next " + pair + ", " + third, x.next(one, other, third), y.next(one, other, third));
                }
            }
        }
        for (int cell = 0; cell < 36; cell++) {
            due("sees " + cell, x.sees(cell), y.sees(cell));
            due("where " + y.sees(cell), x.where(y.sees(cell)), y.where(y.sees(cell)));
            due("drift " + cell, x.drift(cell), y.drift(cell));
        }
    }

    private void askOfChances() {
        for (int tries = 0; tries < 12; tries++) {
            int from = random.nextInt(36);
            for (int what = 0; what < 60; what++) {
                due("odds " + from + ", " + what, x.odds(from, what, 0), y.odds(from, what, 0));
                due("odds below " + from + ", " + what, x.odds(from, what, 1), y.odds(from, what, 1));
            }
        }
        for (int tries = 0; tries < 6; tries++) {
            int from = random.nextInt(36);
            int n = tries == 0 ? 3 : 1 + tries % 2;
            int to = Math.floorMod(from + 6 * (random.nextInt(2 * n + 1) - n) + random.nextInt(2 * n + 1) - n, 36);
            String call = from + ", " + to + ", " + n;
            for (int k = 0; k < n; k++) {
                due("best " + call + ", " + k, x.best(from, to, n, k), y.best(from, to, n, k));
                due("safe " + from + ", " + n + ", " + k, x.safe(from, n, k), y.safe(from, n, k));
            }
            due("bestOdds " + call, x.bestOdds(from, to, n, 0), y.bestOdds(from, to, n, 0));
            due("bestOdds below " + call, x.bestOdds(from, to, n, 1), y.bestOdds(from, to, n, 1));
        }
    }
}
