/** The terms from cells to heaps and their kinds. */
final class CellSentences extends Given {
    static void tell(Sentences to) {
        to.say("35 in six rows of six (CELL 6 r + c).", CellSentences::cellsInRows,
            "CELLS = 36", "CELLS = 35",
            "CELLS = 36", "CELLS = 37",
            "SIDE = 6", "SIDE = 7");
        to.say("WAYS 0 .. 7: 0 a row less, 1 a row less and a column more, 2 a column more, and so on round"
            + " (7: a row less and a column less).", CellSentences::ways,
            "WAYS = 8", "WAYS = 7",
            "WAYS = 8", "WAYS = 9",
            "DOWN = {-1, -1, 0, 1, 1, 1, 0, -1}", "DOWN = {-1, -1, 0, 1, 1, 1, 0, 1}",
            "RIGHT = {0, 1, 1, 1, 0, -1, -1, -1}", "RIGHT = {0, 1, 1, 1, 0, -1, -1, 0}",
            "DOWN = {-1, -1, 0, 1, 1, 1, 0, -1}", "DOWN = {1, 1, 0, -1, -1, -1, 0, 1}");
        to.say("APART of two CELLS: the greater of how far their rows and how far their columns are apart.",
            CellSentences::apart,
            "Math.max(Math.abs(rowOf(one)", "Math.min(Math.abs(rowOf(one)",
            "Math.max(Math.abs(rowOf(one) - rowOf(other)), ", "(Math.abs(rowOf(one) - rowOf(other)) + ",
            "Math.abs(rowOf(one) - rowOf(other))", "(rowOf(one) - rowOf(other))",
            "Math.abs(columnOf(one) - columnOf(other))", "(columnOf(one) - columnOf(other))");
        to.say("EDGES: CELLS, as bits (none at first).", CellSentences::edges,
            "long edges;", "long edges = 1;",
            "(cells >> cell & 1) == 1", "(cells >> (cell & 31) & 1) == 1",
            "(cells >> cell & 1) == 1", "(cells >> cell + 1 & 1) == 1");
        to.say("MIST, SNOW (0 .. 9; 0 at first).", CellSentences::mistAndSnow,
            "n > 9) return BAD;\n        int was", "n > 8) return BAD;\n        int was",
            "n > 9) return BAD;\n        int was", "n > 10) return BAD;\n        int was",
            "n < 0 || n > 9) return BAD;\n        int was", "n < 1 || n > 9) return BAD;\n        int was",
            "n < 0 || n > 9) return BAD;\n        int was", "n < -1 || n > 9) return BAD;\n        int was",
            "int mist;", "int mist = 1;",
            "int snow;", "int snow = 1;");
        to.say("HEAPS are numbered from 0 on,", CellSentences::heapNumbers,
            "return scene.heapCount - 1;", "return scene.heapCount;",
            "heapOfKind(kind, scene.heapCount, v, cell)", "heapOfKind(kind, scene.heapCount + 1, v, cell)");
        to.say("8 at most,", CellSentences::eightAtMost,
            "MOST_HEAPS = 8", "MOST_HEAPS = 7",
            "MOST_HEAPS = 8", "MOST_HEAPS = 9");
        to.say("each on a CELL of its own,", CellSentences::aCellOfItsOwn,
            "if (scene.isTaken(cell)) return STATE;", "",
            "if (heaps[i].cell == cell) return true;", "if (i > 0 && heaps[i].cell == cell) return true;",
            "if (heaps[i].cell == cell) return true;", "if (i + 1 < heapCount && heaps[i].cell == cell) return true;");
        to.say("of a KIND: 0 HEAP; 1 HIGH, 2 LOW, 3 FALSE under HEAP; 4 TURNING under HIGH; 5 SNOWED under LOW;"
            + " 6 OLD under FALSE;", CellSentences::kinds,
            "KINDS = 7", "KINDS = 6",
            "KINDS = 7", "KINDS = 8",
            "{-1, 0, 0, 0, 1, 2, 3}", "{-1, -1, 0, 0, 1, 2, 3}",
            "{-1, 0, 0, 0, 1, 2, 3}", "{-1, 0, 0, 0, 2, 1, 3}",
            "{-1, 0, 0, 0, 1, 2, 3}", "{-1, 0, 0, 0, 1, 2, 0}");
        to.say("a number v (0 .. 9).", CellSentences::numberV,
            "if (v < 0 || v > 9)", "if (v < 1 || v > 9)",
            "if (v < 0 || v > 9)", "if (v < -1 || v > 9)",
            "if (v < 0 || v > 9)", "if (v < 0 || v > 8)",
            "if (v < 0 || v > 9)", "if (v < 0 || v > 10)");
    }

    private static void cellsInRows() {
        MistHeaps x = new MistHeaps();
        due("no CELL -1", x.sees(-1), NONE);
        due("the first CELL", x.sees(0), 0);
        due("the last CELL", x.sees(35), 0);
        due("no CELL 36", x.sees(36), NONE);
        // CELL 11 ends a row and CELL 12 begins the next one: they are beside one another in number alone.
        MistHeaps end = sight(1, 11);
        due("from the next row's first CELL", end.sees(12), 0);
        due("from the next row's last CELL", end.sees(17), 1);
        due("from a column less", end.sees(10), 1);
    }

    private static void ways() {
        int[] ends = {8, 9, 15, 21, 20, 19, 13, 7};
        for (int way = 0; way <= 7; way++) {
            MistHeaps x = new MistHeaps();
            due("walk(" + way + ")", x.walk(way), 1);
            due("WAY " + way, x.odds(14, ends[way], 0), 1);
        }
        due("no WAY 8", new MistHeaps().walk(8), NONE);
        due("no WAY -2", new MistHeaps().walk(-2), NONE);
    }

    private static void apart() {
        // Heap 0 in row 2 and column 2, heap 1 in row 3 and column 3.
        MistHeaps x = sight(2, 14, 21);
        due("rows 2, columns 2 and rows 3, columns 3", x.sees(0), 1);
        due("rows 2, columns 1 and rows 3, columns 0", x.sees(3), 1);
        due("rows 0, columns 3 and rows 1, columns 2", x.sees(17), 2);
        due("rows 1, columns 2 and rows 0, columns 3", x.sees(18), 1);
        due("rows 3, columns 0 and rows 2, columns 1", x.sees(32), 2);
        due("rows 2, columns 2 and rows 1, columns 1", x.sees(28), 3);
        due("rows 2, columns 3 and rows 1, columns 2", x.sees(29), 2);
        due("rows 3, columns 3 and rows 2, columns 2", x.sees(35), 2);
    }

    private static void edges() {
        MistHeaps x = new MistHeaps();
        due("none at first", x.told(3), 0);
        for (int cell = 0; cell < 36; cell++) due("CELL " + cell + " at first", x.odds(cell, 40, 0), 0);
        x.edges(cells(0, 3, 35));
        for (int cell = 0; cell < 36; cell++) {
            due("CELL " + cell, x.odds(cell, 40, 0), cell == 0 || cell == 3 || cell == 35 ? 1 : 0);
        }
    }

    private static void mistAndSnow() {
        MistHeaps x = new MistHeaps();
        for (int what = 0; what <= 1; what++) {
            due("at first", x.told(what), 0);
            due("the least, and what it was", x.set(what, 0), 0);
            due("below the least", x.set(what, -1), BAD);
            due("the greatest", x.set(what, 9), 0);
            due("above the greatest", x.set(what, 10), BAD);
            due("it is the greatest", x.told(what), 9);
        }
    }

    private static void heapNumbers() {
        MistHeaps x = Checks.withHill("sight 0;see 5 h=0;see 6 h=1");
        due("the first", x.heap(0, 0, 20), 0);
        due("the second", x.heap(0, 0, 3), 1);
        due("the third", x.heap(0, 0, 30), 2);
        due("CELL of 0", x.of(0, 2), 20);
        due("CELL of 2", x.of(2, 2), 30);
        due("h is 0 of the first", x.of(0, 3), 5);
        due("h is 1 of the second", x.of(1, 3), 6);
    }

    private static void eightAtMost() {
        MistHeaps x = new MistHeaps();
        for (int i = 0; i < 8; i++) due("heap " + i, x.heap(0, 0, 4 * i), i);
        due("one too many", x.heap(0, 0, 35), FULL);
        due("there are", x.count(0), 8);
        due("the last one", x.of(7, 2), 28);
        due("none behind it", x.of(8, 2), NONE);
    }

    private static void aCellOfItsOwn() {
        MistHeaps x = heaps(new MistHeaps(), 0, 17, 35);
        due("the first one's CELL", x.heap(1, 2, 0), STATE);
        due("the second one's", x.heap(1, 2, 17), STATE);
        due("the last one's", x.heap(1, 2, 35), STATE);
        due("another", x.heap(1, 2, 34), 3);
        due("and that one's", x.heap(1, 2, 34), STATE);
    }

    private static void kinds() {
        MistHeaps x = new MistHeaps();
        due("no KIND -1", x.heap(-1, 0, 0), NONE);
        due("no KIND 7", x.heap(7, 0, 0), NONE);
        x = ofAllKinds();
        String[] under = {"y------", "yy-----", "y-y----", "y--y---", "yy--y--", "y-y--y-", "y--y--y"};
        for (int kind = 0; kind <= 6; kind++) {
            due("KIND " + kind, x.of(kind, 0), kind);
            for (int above = 0; above <= 6; above++) {
                boolean is = under[kind].charAt(above) == 'y';
                due("KIND " + kind + " taken for " + above, x.as(kind, above), is ? kind + 1 : OTHER_KIND);
            }
        }
    }

    private static void numberV() {
        for (int kind = 0; kind <= 6; kind++) {
            MistHeaps x = new MistHeaps();
            due("below the least", x.heap(kind, -1, 0), BAD);
            due("above the greatest", x.heap(kind, 10, 0), BAD);
            due("the least", x.heap(kind, 0, 0), 0);
            due("the greatest", x.heap(kind, 9, 1), 1);
            due("it is the least", x.of(0, 1), 0);
            due("it is the greatest", x.of(1, 1), 9);
        }
    }
}
