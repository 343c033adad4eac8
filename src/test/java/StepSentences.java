/** The terms of steps by chances, of lines, of the next heap and of the book. */
final class StepSentences extends Given {
    private static final String ROWS = "3 * rowOf(third.cell) - 3 * rowOf(second.cell) + rowOf(first.cell)";
    private static final String COLUMNS = "3 * columnOf(third.cell) - 3 * columnOf(second.cell) + columnOf(first.cell)";
    private static final String ON_HILL = "row >= 0 && row < SIDE && column >= 0 && column < SIDE";
    private static final String BEST_OF = "return BAD;\n        if (k >= n) return NONE;\n        chances.search(scene, cell, 1L << other, n);";

    static void tell(Sentences to) {
        steps(to);
        odds(to);
        searches(to);
        linesAndNext(to);
        books(to);
    }

    private static void steps(Sentences to) {
        to.say("A STEP a WAY from a CELL, by DRIFT there: of twenty times one goes that WAY 20 less twice DRIFT times,"
            + " the WAY 1 less DRIFT times, the WAY 1 more DRIFT times (round about):", StepSentences::aStep,
            "often * (TWENTY - 2 * drift)", "often * (TWENTY - drift)",
            "TWENTY = 20", "TWENTY = 40",
            "besideOrSame(cell, way + 7 & 7)] +=", "besideOrSame(cell, Math.max(way - 1, 0))] +=",
            "besideOrSame(cell, way + 1 & 7)] +=", "besideOrSame(cell, Math.min(way + 1, 7))] +=",
            "besideOrSame(cell, way + 7 & 7)] +=", "besideOrSame(cell, way + 6 & 7)] +=",
            "int drift = drifts[cell];", "int drift = drifts[0];");
        to.say("one comes to the next CELL that WAY, or stays, if there is none.", StepSentences::comesOrStays,
            "row * SIDE + column : cell;", "row * SIDE + column : (row + SIDE) % SIDE * SIDE + (column + SIDE) % SIDE;",
            "isOnHill(row, column) ? row * SIDE + column : cell;", "isCell(row * SIDE + column) ? row * SIDE + column : cell;",
            "row * SIDE + column : cell;", "row * SIDE + column : Math.max(0, Math.min(5, row)) * SIDE + Math.max(0, Math.min(5, column));");
        to.say("Who comes on an EDGE is OVER it, and goes no more.", StepSentences::goesNoMore,
            "if (isIn(scene.edges, cell)) {", "if (false) {",
            "to[cell] += often * TWENTY;", "to[cell] += often;",
            "to[cell] += often * TWENTY;", "");
        to.say("(One who begins on an EDGE is OVER it at once.)", StepSentences::beginsOnAnEdge,
            "if (isIn(scene.edges, cell)) {", "if (isIn(scene.edges, cell) && from != times[0]) {",
            "isIn(scene.edges, cell)\n                        ?", "false\n                        ?");
        to.say("THE WALK told by hand: WAYS, one behind the other (6 at most; none at first).", StepSentences::theWalk,
            "MOST_WALKED = 6", "MOST_WALKED = 5",
            "MOST_WALKED = 6", "MOST_WALKED = 7",
            "int walkSize;", "int walkSize = 1;",
            "scene.walk[step]", "scene.walk[scene.walkSize - 1 - step]",
            "scene.walk[scene.walkSize] = way;", "scene.walk[0] = way;");
    }

    private static void odds(Sentences to) {
        to.say("ODDS from a CELL by THE WALK: of a CELL: how likely one is there at its end (OVER an EDGE is being there);",
            StepSentences::oddsOfCell,
            "asked = 1L << what;", "asked = 1L << what & ~scene.edges;",
            "asked = 1L << what;", "asked = 1 << what;",
            "long[] last = times[scene.walkSize & 1];", "long[] last = times[0];",
            "at == cell ? 1 : 0", "at == 0 ? 1 : 0");
        to.say("of OVER: how likely one is OVER some EDGE then;", StepSentences::oddsOfOver,
            "asked = scene.edges;", "asked = scene.edges & -scene.edges;",
            "asked = scene.edges;", "asked = ~scene.edges;",
            "ODDS_OF_OVER = 40", "ODDS_OF_OVER = 41");
        to.say("of SEEN of a HEAP: how likely one is not OVER, and it is SEEN from where one is:", StepSentences::oddsOfSeen,
            "scene.cellsSeeing(what - ODDS_OF_SEEN) & ~scene.edges", "scene.cellsSeeing(what - ODDS_OF_SEEN)",
            "apart(cell, heap.cell) <= reach", "apart(cell, heap.cell) < reach",
            "int reach = reachOf(heap, snow);", "int reach = hill.sight;",
            "int reach = reachOf(heap, snow);\n            long cells = 0;", "int reach = reachOf(heap, snow);\n            long cells = 1;",
            "ODDS_OF_SEEN = 50", "ODDS_OF_SEEN = 51");
        to.say("fractions in lowest terms.", StepSentences::lowestTerms,
            "long common = commonDivisor(above, below);", "long common = 1;",
            "return one;\n    }\n\n    private static Heap heapOfKind", "return one % 2 == 0 ? 2 : 1;\n    }\n\n    private static Heap heapOfKind",
            "(part == 0 ? above : below)", "(part == 1 ? above : below)");
    }

    private static void searches(Sentences to) {
        to.say("BEST of n (1 .. 3) STEPS from a CELL to a CELL: the row of WAYS by which it is likeliest that one is there"
            + " at its end;", StepSentences::best,
            "n > MOST_STEPS) " + BEST_OF, "n > MOST_STEPS - 1) " + BEST_OF,
            "n < 1 || n > MOST_STEPS) " + BEST_OF, "n < 2 || n > MOST_STEPS) " + BEST_OF,
            "n < 1 || n > MOST_STEPS) " + BEST_OF, "n > MOST_STEPS) " + BEST_OF,
            "if (sum > foundTimes) {", "if (foundTimes < 0 || sum < foundTimes) {",
            "int drift = drifts[cell];", "int drift = 0;",
            "sum += from[cell] * hits[way][cell];", "sum = Math.max(sum, from[cell] * hits[way][cell]);");
        to.say("of several the first as a row;", StepSentences::firstBest,
            "if (sum > foundTimes) {", "if (sum >= foundTimes) {",
            "for (int way = 0; way < WAYS; way++) {\n                long sum", "for (int way = WAYS - 1; way >= 0; way--) {\n                long sum",
            "for (int row = 0; row < 1 << 3 * ahead; row++) {", "for (int row = (1 << 3 * ahead) - 1; row >= 0; row--) {",
            "foundTimes = -1;", "foundTimes = 0;");
        to.say("how likely it is.", StepSentences::howLikely,
            "partOf(chances.foundTimes, Chances.timesOf(n), part)", "partOf(chances.foundTimes, Chances.timesOf(3), part)",
            "foundTimes = sum;", "foundTimes = sum + 1;",
            "TWENTY * hit(cells, cell)", "hit(cells, cell)",
            "(TWENTY - 2 * drifts[cell])", "(TWENTY - drifts[cell])",
            "hit(cells, besideOrSame(cell, way + 7 & 7))", "hit(cells, cell)",
            "hit(cells, besideOrSame(cell, way + 1 & 7))", "hit(cells, cell)");
        to.say("SAFE of n (1 .. 3) STEPS from a CELL: the row of WAYS by which OVER is least likely at its end;",
            StepSentences::safe,
            "chances.search(scene, cell, ALL_CELLS & ~scene.edges, n);", "chances.search(scene, cell, scene.edges, n);",
            "chances.search(scene, cell, ALL_CELLS & ~scene.edges, n);", "chances.search(scene, cell, ALL_CELLS & ~scene.edges, 1);",
            "n > MOST_STEPS) return BAD;\n        if (k >= n) return NONE;\n        chances.search(scene, cell, ALL_CELLS",
            "n > MOST_STEPS - 1) return BAD;\n        if (k >= n) return NONE;\n        chances.search(scene, cell, ALL_CELLS",
            "isIn(scene.edges, cell)\n                        ?", "false\n                        ?");
        to.say("of several the first as a row.", StepSentences::firstSafe,
            "if (sum > foundTimes) {", "if (sum >= foundTimes) {",
            "foundRow >> 3 * (n - 1 - k) & 7", "foundRow >> 3 * k & 7");
    }

    private static void linesAndNext(Sentences to) {
        to.say("LINE of n (1 .. 9) people from a HEAP: the first stays,", StepSentences::line,
            "if (n < 1 || n > 9) return BAD;\n        int far", "if (n < 0 || n > 9) return BAD;\n        int far",
            "if (n < 1 || n > 9) return BAD;\n        int far", "if (n < 2 || n > 9) return BAD;\n        int far",
            "if (n < 1 || n > 9) return BAD;\n        int far", "if (n < 1 || n > 8) return BAD;\n        int far",
            "if (n < 1 || n > 9) return BAD;\n        int far", "if (n < 1 || n > 10) return BAD;\n        int far",
            "int far = (n - 1) *", "int far = n *");
        to.say("each next one goes (sight less MIST,", StepSentences::lineInMist,
            "int far = (n - 1) *", "int far = Math.min(n - 1, 1) *",
            "scene.hill.sight - scene.mist", "scene.hill.sight",
            "scene.hill.sight - scene.mist", "scene.hill.sight - scene.snow",
            "scene.hill.sight - scene.mist", "3 - scene.mist");
        to.say("0 at least) farther:", StepSentences::lineInMuchMist,
            "Math.max(0, scene.hill.sight - scene.mist)", "Math.abs(scene.hill.sight - scene.mist)",
            "Math.max(0, scene.hill.sight - scene.mist)", "Math.max(1, scene.hill.sight - scene.mist)");
        to.say("the HEAPS (not that one) no farther APART from it than the last one goes, as bits.", StepSentences::lineReaches,
            "if (i != heap && apart(from.cell", "if (apart(from.cell",
            "scene.heaps[i].cell) <= far", "scene.heaps[i].cell) < far",
            "<= far) bits |= 1 << i;", "<= far) bits = 1 << i;");
        to.say("NEXT by three HEAPS told as a row (a, b, c): the CELL whose row is 3 times that of c, less 3 times that of b,"
            + " and that of a, together, and whose column is so by columns", StepSentences::next,
            ROWS, "2 * rowOf(third.cell) - rowOf(second.cell)",
            ROWS, "3 * rowOf(third.cell) - 3 * rowOf(second.cell) - rowOf(first.cell)",
            ROWS, "3 * rowOf(first.cell) - 3 * rowOf(second.cell) + rowOf(third.cell)",
            COLUMNS, "2 * columnOf(third.cell) - columnOf(second.cell)",
            COLUMNS, "3 * columnOf(third.cell) - 3 * columnOf(second.cell) - columnOf(first.cell)",
            COLUMNS, "3 * columnOf(first.cell) - 3 * columnOf(second.cell) + columnOf(third.cell)");
        to.say("(-5: it is beyond the hill).", StepSentences::nextBeyond,
            ON_HILL, "row < SIDE && column >= 0 && column < SIDE",
            ON_HILL, "row >= 0 && column >= 0 && column < SIDE",
            ON_HILL, "row >= 0 && row < SIDE && column < SIDE",
            ON_HILL, "row >= 0 && row < SIDE && column >= 0",
            ON_HILL, "row > 0 && row < SIDE && column >= 0 && column < SIDE",
            ON_HILL, "row >= 0 && row < SIDE - 1 && column >= 0 && column < SIDE",
            ON_HILL, "row >= 0 && row < SIDE && column > 0 && column < SIDE",
            ON_HILL, "row >= 0 && row < SIDE && column >= 0 && column < SIDE - 1");
    }

    private static void books(Sentences to) {
        to.say("A BOOK told by hand: HEAPS that one came to, one behind the other (12 at most):", StepSentences::book,
            "MOST_BOOKED = 12", "MOST_BOOKED = 11",
            "MOST_BOOKED = 12", "MOST_BOOKED = 13",
            "scene.book[scene.bookSize] = heap;", "scene.book[0] = heap;");
        to.say("LOOKED at: the first one to which one could not go from the one ahead of it", StepSentences::lookedAt,
            "return scene.book[i];", "return scene.book[i - 1];",
            "return scene.book[i];", "return i;",
            "goings.isGoing(scene.book[i - 1], scene.book[i])", "goings.isGoing(scene.book[i], scene.book[i - 1])",
            "for (int i = 1; i < scene.bookSize; i++)", "for (int i = 2; i < scene.bookSize; i++)",
            "for (int i = 1; i < scene.bookSize; i++)", "for (int i = 1; i < scene.bookSize - 1; i++)",
            "for (int i = 1; i < scene.bookSize; i++)", "for (int i = scene.bookSize - 1; i > 0; i--)");
        to.say("(-5: none).", StepSentences::lookedAtNone,
            "for (int i = 1; i < scene.bookSize; i++)", "for (int i = 1; i <= scene.bookSize; i++)",
            "for (int i = 1; i < scene.bookSize; i++)", "for (int i = 1; i < scene.book.length; i++)",
            "return scene.book[i];\n        }\n        return NOWHERE;", "return scene.book[i];\n        }\n        return NONE;");
    }

    private static void aStep() {
        int[] around = {8, 9, 15, 21, 20, 19, 13, 7};
        int[][] straight = {{1, 1}, {9, 10}, {4, 5}, {7, 10}, {3, 5}, {1, 2}};
        int[][] aside = {{0, 1}, {1, 20}, {1, 10}, {3, 20}, {1, 5}, {1, 4}};
        for (int drift = 0; drift <= 5; drift++) {
            for (int way = 0; way < 8; way++) {
                MistHeaps x = walks(Checks.withHill("drift " + drift + " r=2&c=2;drift 2 r=0"), way);
                odds(x, 14, around[way], straight[drift][0], straight[drift][1]);
                odds(x, 14, around[(way + 1) % 8], aside[drift][0], aside[drift][1]);
                odds(x, 14, around[(way + 7) % 8], aside[drift][0], aside[drift][1]);
                odds(x, 14, around[(way + 4) % 8], 0, 1);
                odds(x, 14, 14, 0, 1);
            }
        }
    }

    private static void comesOrStays() {
        int[] corners = {0, 5, 30, 35, 12, 3};
        int[][] ends = {{0, 0, 1, 7, 6, 0, 0, 0}, {5, 5, 5, 5, 11, 10, 4, 5}, {24, 25, 31, 30, 30, 30, 30, 30},
            {29, 35, 35, 35, 35, 35, 34, 28}, {6, 7, 13, 19, 18, 12, 12, 12}, {3, 3, 4, 10, 9, 8, 2, 3}};
        for (int i = 0; i < corners.length; i++) {
            for (int way = 0; way < 8; way++) {
                MistHeaps x = walks(new MistHeaps(), way);
                due("from " + corners[i] + " the WAY " + way, x.odds(corners[i], ends[i][way], 0), 1);
            }
        }
        MistHeaps x = walks(Checks.withHill("drift 5 h=99"), 0);
        odds(x, 6, 6, 1, 4);
        odds(x, 0, 0, 1, 1);
    }

    private static void goesNoMore() {
        MistHeaps x = walks(new MistHeaps(), 2, 2, 2, 2);
        x.edges(cells(14));
        odds(x, 12, 14, 1, 1);
        odds(x, 12, 16, 0, 1);
        odds(x, 15, 17, 1, 1);
        MistHeaps half = walks(Checks.withHill("drift 5 h=99"), 0, 4);
        half.edges(cells(8));
        odds(half, 14, 8, 1, 2);
        odds(half, 14, 14, 1, 8);
    }

    private static void beginsOnAnEdge() {
        MistHeaps x = new MistHeaps();
        x.edges(cells(14));
        odds(x, 14, 40, 1, 1);
        walks(x, 2);
        odds(x, 14, 40, 1, 1);
        odds(x, 14, 14, 1, 1);
        odds(x, 14, 15, 0, 1);
        due("there is no coming from it", x.bestOdds(14, 15, 1, 0), 0);
        due("but staying", x.bestOdds(14, 14, 3, 0), 1);
        walks(x, 2, 2, 2, 2, 2);
        odds(x, 14, 14, 1, 1);
    }

    private static void theWalk() {
        MistHeaps x = new MistHeaps();
        due("none at first", x.count(2), 0);
        odds(x, 14, 14, 1, 1);
        int[] ways = {2, 4, 2, 4, 4, 6};
        for (int i = 0; i < 6; i++) due("WAY " + i, x.walk(ways[i]), i + 1);
        due("one too many", x.walk(0), FULL);
        due("there are", x.count(2), 6);
        odds(x, 7, 26, 1, 1);
        // One behind the other: by CELL 8, not by CELL 6.
        x.edges(cells(8));
        odds(x, 7, 40, 1, 1);
        x.edges(cells(6));
        odds(x, 7, 40, 0, 1);
    }

    private static void oddsOfCell() {
        MistHeaps x = walks(Checks.withHill("drift 5 h=99"), 4);
        x.edges(cells(34));
        odds(x, 28, 34, 1, 2);
        odds(x, 28, 33, 1, 4);
        odds(x, 28, 35, 1, 4);
        odds(x, 28, 28, 0, 1);
        walks(x, 2);
        odds(x, 28, 34, 5, 8);
        odds(x, 28, 33, 1, 16);
        odds(x, 28, 35, 1, 4);
        odds(x, 28, 28, 1, 16);
    }

    private static void oddsOfOver() {
        MistHeaps x = walks(Checks.withHill("drift 5 h=99"), 0);
        odds(x, 14, 40, 0, 1);
        x.edges(cells(8));
        odds(x, 14, 40, 1, 2);
        x.edges(cells(8, 9));
        odds(x, 14, 40, 3, 4);
        x.edges(cells(7, 8, 9));
        odds(x, 14, 40, 1, 1);
        x.edges(ALL);
        odds(x, 14, 40, 1, 1);
        x.edges(ALL & ~cells(7, 14));
        odds(x, 14, 40, 3, 4);
    }

    private static void oddsOfSeen() {
        MistHeaps x = walks(heaps(Checks.withHill("drift 5 h=99;sight 1;hide 1 h=1"), 1, 8), 0);
        odds(x, 14, 50, 3, 4);
        odds(x, 14, 51, 1, 2);
        odds(x, 20, 50, 0, 1);
        x.edges(cells(8));
        odds(x, 14, 50, 1, 4);
        odds(x, 14, 51, 0, 1);
        x.edges(cells(14));
        odds(x, 14, 50, 0, 1);
        MistHeaps far = sight(4, 35, 0);
        odds(far, 0, 50, 0, 1);
        odds(far, 35, 51, 0, 1);
        odds(far, 7, 50, 1, 1);
    }

    private static void lowestTerms() {
        MistHeaps x = walks(Checks.withHill("drift 5 h=99"), 0);
        odds(x, 14, 8, 1, 2);
        odds(x, 14, 7, 1, 4);
        odds(x, 14, 20, 0, 1);
        odds(new MistHeaps(), 14, 14, 1, 1);
        odds(new MistHeaps(), 14, 15, 0, 1);
        MistHeaps four = walks(Checks.withHill("drift 4 h=99"), 0);
        odds(four, 14, 8, 3, 5);
        odds(four, 14, 9, 1, 5);
        MistHeaps thin = walks(Checks.withHill("drift 3 h=99"), 2, 2, 2, 2, 2);
        odds(thin, 30, 5, 243, 3200000);
        MistHeaps most = walks(Checks.withHill("drift 1 h=99"), 2, 2, 2, 2, 2, 2);
        // Five times aside; the sixth step leads beyond the hill, at the end by any WAY, at the beginning by one.
        odds(most, 30, 5, 21, 64000000);
        odds(most, 0, 35, 21, 64000000);
    }

    private static void best(MistHeaps x, int cell, int other, int... row) {
        for (int k = 0; k < row.length; k++) {
            due("best(" + cell + ", " + other + ", " + row.length + ", " + k + ")", x.best(cell, other, row.length, k), row[k]);
        }
    }

    private static void best() {
        MistHeaps x = new MistHeaps();
        due("n 0", x.best(7, 21, 0, 0), BAD);
        due("n 4", x.best(7, 21, 4, 0), BAD);
        best(x, 7, 14, 3);
        best(x, 7, 21, 3, 3);
        best(x, 7, 28, 3, 3, 3);
        best(x, 28, 7, 7, 7, 7);
        best(x, 34, 31, 6, 6, 6);
        MistHeaps drifts = Checks.withHill("drift 5 h=99");
        best(drifts, 14, 8, 0);
        // Half of the times one is OVER there; of the others, who came to CELL 7, half come on by the WAY 2.
        drifts.edges(cells(8));
        best(drifts, 14, 8, 0, 2);
        MistHeaps about = Checks.withHill("drift 5 r=1&c=2");
        // Straight on, by CELL 8, one drifts; about, by CELL 9, one does not.
        best(about, 14, 2, 1, 7);
    }

    private static void firstBest() {
        MistHeaps x = new MistHeaps();
        best(x, 0, 35, 0);
        best(x, 0, 35, 0, 0);
        best(x, 0, 35, 0, 0, 0);
        best(x, 0, 0, 0);
        best(x, 14, 14, 0, 4);
        best(x, 14, 13, 0, 5);
        best(x, 31, 34, 1, 2, 3);
        best(x, 0, 35, 0, 0, 0);
        best(x, 0, 1, 0, 0, 2);
    }

    private static void howLikely(MistHeaps x, int cell, int other, int n, long above, long below) {
        due("above, of " + n + " from " + cell + " to " + other, x.bestOdds(cell, other, n, 0), above);
        due("below, of " + n + " from " + cell + " to " + other, x.bestOdds(cell, other, n, 1), below);
    }

    private static void howLikely() {
        MistHeaps x = Checks.withHill("drift 5 h=99");
        howLikely(x, 14, 8, 1, 1, 2);
        howLikely(x, 14, 2, 1, 0, 1);
        howLikely(x, 14, 2, 2, 3, 8);
        howLikely(x, 0, 0, 3, 1, 1);
        howLikely(new MistHeaps(), 7, 28, 3, 1, 1);
        howLikely(new MistHeaps(), 7, 28, 2, 0, 1);
        MistHeaps edge = Checks.withHill("drift 1 h=99");
        edge.edges(cells(8));
        howLikely(edge, 8, 8, 3, 1, 1);
        howLikely(edge, 14, 8, 1, 9, 10);
        howLikely(edge, 8, 14, 3, 0, 1);
    }

    private static void safeRow(MistHeaps x, int cell, int... row) {
        for (int k = 0; k < row.length; k++) {
            due("safe(" + cell + ", " + row.length + ", " + k + ")", x.safe(cell, row.length, k), row[k]);
        }
    }

    private static void safe() {
        MistHeaps x = new MistHeaps();
        due("n 0", x.safe(14, 0, 0), BAD);
        due("n 4", x.safe(14, 4, 0), BAD);
        x.edges(cells(7, 8, 9, 13, 19, 20, 15));
        safeRow(x, 14, 3);
        safeRow(x, 14, 3, 1);
        safeRow(x, 14, 3, 1, 0);
        MistHeaps drifts = Checks.withHill("drift 5 h=99");
        drifts.edges(cells(8, 21));
        safeRow(drifts, 14, 5);
        drifts.edges(cells(7, 8, 9, 15, 19, 20, 21));
        safeRow(drifts, 14, 6);
    }

    private static void firstSafe() {
        MistHeaps x = new MistHeaps();
        safeRow(x, 14, 0, 0, 0);
        x.edges(cells(14));
        safeRow(x, 14, 0, 0, 0);
        x.edges(cells(7, 8, 9, 13, 15, 19, 20, 21));
        safeRow(x, 14, 0, 0, 0);
        x.edges(cells(8, 2));
        safeRow(x, 14, 1);
        safeRow(x, 14, 1, 0);
        safeRow(x, 20, 0, 1, 0);
    }

    private static void line() {
        MistHeaps x = sight(2, 0, 1, 2, 35);
        due("0 people", x.line(0, 0), BAD);
        due("10 people", x.line(0, 10), BAD);
        due("one stays", x.line(0, 1), 0);
        due("nine", x.line(0, 9), 0b1110);
    }

    private static void lineInMist() {
        MistHeaps x = sight(2, 0, 1, 2, 3, 4, 5);
        due("two", x.line(0, 2), 0b000110);
        due("three", x.line(0, 3), 0b011110);
        due("four", x.line(0, 4), 0b111110);
        x.set(0, 1);
        due("two in MIST", x.line(0, 2), 0b000010);
        due("three in MIST", x.line(0, 3), 0b000110);
        due("five in MIST", x.line(0, 5), 0b011110);
        due("six in MIST", x.line(0, 6), 0b111110);
        MistHeaps plain = heaps(new MistHeaps(), 0, 3, 4);
        plain.set(1, 9);
        due("without a HILL, in SNOW", plain.line(0, 2), 0b010);
    }

    private static void lineInMuchMist() {
        MistHeaps x = sight(2, 0, 1, 2);
        x.set(0, 2);
        due("MIST as sight", x.line(0, 9), 0);
        x.set(0, 3);
        due("MIST above sight", x.line(0, 9), 0);
        x.set(0, 9);
        due("much MIST", x.line(0, 2), 0);
    }

    private static void lineReaches() {
        MistHeaps x = sight(1, 14, 15, 16, 28, 2, 35);
        due("to 1", x.line(0, 2), 0b000010);
        due("to 2", x.line(0, 3), 0b011110);
        due("to 3", x.line(0, 4), 0b111110);
        due("from another", x.line(2, 2), 0b000010);
        due("the first one too", x.line(1, 2), 0b000101);
        MistHeaps far = heaps(Checks.withHill("sight 5;hide 99 h<9"), 0, 35);
        due("REACH is nothing to it", far.line(0, 2), 0b10);
        MistHeaps alone = sight(9, 0);
        due("alone", alone.line(0, 9), 0);
    }

    /** NEXT by heaps on these cells; one heap each, so that the same cell is the same heap. */
    private static int next(int... cells) {
        MistHeaps x = new MistHeaps();
        int[] numbers = new int[3];
        for (int i = 0; i < 3; i++) {
            x.heap(0, 0, cells[i]);
            for (int j = 0; j < x.count(0); j++) {
                if (x.of(j, 2) == cells[i]) numbers[i] = j;
            }
        }
        return x.next(numbers[0], numbers[1], numbers[2]);
    }

    private static void next() {
        due("straight on", next(0, 7, 14), 21);
        due("along a row", next(0, 1, 2), 3);
        due("down a column", next(0, 6, 12), 18);
        due("farther and farther along a row", next(1, 1, 2), 4);
        due("farther and farther down", next(6, 6, 12), 24);
        due("bent", next(0, 7, 8), 3);
        due("bent down", next(0, 7, 13), 18);
        due("back", next(21, 14, 7), 0);
        due("one HEAP", next(9, 9, 9), 9);
        due("to the first again", next(9, 14, 14), 9);
    }

    private static void nextBeyond() {
        due("a row too great", next(3, 9, 21), -5);
        due("a row below 0", next(15, 9, 3), -5);
        due("a column too great", next(18, 19, 21), -5);
        due("a column below 0", next(20, 19, 18), -5);
        due("rows and columns", next(0, 14, 35), -5);
        due("the last CELL", next(14, 21, 28), 35);
        due("the first CELL", next(21, 14, 7), 0);
    }

    private static void book() {
        MistHeaps x = sight(1, 0, 1, 2);
        for (int i = 1; i <= 12; i++) due("HEAP " + i, x.book(i % 2), i);
        due("one too many", x.book(0), FULL);
        due("there are", x.count(3), 12);
        due("one behind the other", x.looked(), NOWHERE);
        due("in that order", looked(x, 0, 1, 2, 0, 1), 0);
        due("in another", looked(x, 0, 2, 1, 0), 2);
    }

    private static void lookedAt() {
        MistHeaps x = sight(1, 5, 4, 3, 2);
        x.heap(1, 9, 0);
        due("the second", looked(x, 0, 2), 2);
        due("the first of two", looked(x, 1, 2, 0, 3), 0);
        due("the last", looked(x, 0, 1, 2, 3, 1), 1);
        due("the twelfth", looked(x, 0, 1, 0, 1, 0, 1, 0, 1, 0, 1, 0, 3), 3);
        due("itself", looked(x, 1, 1), 1);
        due("to the HIGH one, not from it", looked(x, 2, 4, 2), 2);
    }

    private static void lookedAtNone() {
        MistHeaps x = sight(1, 5, 4, 0);
        due("an empty BOOK", x.looked(), -5);
        due("one HEAP", looked(x, 2), -5);
        due("two", looked(x, 0, 1), -5);
        due("twelve", looked(x, 0, 1, 0, 1, 0, 1, 0, 1, 0, 1, 0, 1), -5);
        due("one again", looked(x, 2), -5);
        due("empty again", looked(x), -5);
    }
}
