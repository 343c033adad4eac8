/** The terms of goings from heap to heap, and of what is seen from where. */
final class RowSentences extends Given {
    private static final String FIRST_BY = "for (int i = 0; i < linked; i++) {\n                if (isGoing(one, i)";
    private static final String BETTER = "if (then != NOWHERE && (least == NOWHERE || then < least)) {";

    static void tell(Sentences to) {
        goings(to);
        rows(to);
        building(to);
        to.say("SEES of a CELL: the HEAPS SEEN from it, as bits.", RowSentences::sees,
            "<= reach[i]) bits |= 1 << i;", "<= reach[i]) bits |= 2 << i;",
            "<= reach[i]) bits |= 1 << i;", "<= reach[i]) bits = 1 << i;",
            "<= reach[i]) bits |= 1 << i;", "> reach[i]) bits |= 1 << i;");
        to.say("WHERE by a set of HEAPS: the CELLS from which just these are SEEN, as bits.", RowSentences::where,
            "goings.seenFrom(scene, cell) == set", "(goings.seenFrom(scene, cell) & set) == set",
            "goings.seenFrom(scene, cell) == set", "(goings.seenFrom(scene, cell) | set) == set",
            "== set) cells |= 1L << cell;", "== set) cells |= 1 << cell;");
    }

    private static void goings(Sentences to) {
        to.say("ROW: one goes from a HEAP to any other one that is SEEN from its CELL;", RowSentences::row,
            "<= reach[to.number]", "<= reach[from.number]",
            "<= reach[to.number]", "< reach[to.number]",
            "boolean goes = from.number != to.number && ", "boolean goes = ",
            "for (int j = 0; j < linked; j++) tellGoing", "for (int j = 0; j < i; j++) tellGoing");
        to.say("from a FALSE one (or one under it) nobody goes on;", RowSentences::falseOnes,
            "boolean leadsTo(int other) {\n            return false;", "boolean leadsTo(int other) {\n            return true;",
            "boolean leadsTo(int other) {\n            return false;", "boolean leadsTo(int other) {\n            return kind == 6;",
            "boolean leadsTo(int other) {\n            return true;", "boolean leadsTo(int other) {\n            return kind != 2;");
        to.say("from a TURNING one only to those that lie on the side of the WAY v modulo 8:", RowSentences::turning,
            "int way = v % WAYS;", "int way = Math.min(v, 7);",
            "int way = v % WAYS;", "int way = v % 7;",
            "int way = v % WAYS;", "int way = (v + 1) % WAYS;");
        to.say("in a lesser row, if that WAY goes a row less, in a greater one, if it goes a row more;",
            RowSentences::turningByRows,
            "side * by > 0", "side * by >= 0",
            "side * by > 0", "side * by == 1",
            "rowOf(other) - rowOf(cell)", "rowOf(cell) - rowOf(other)",
            "return isOnSide(DOWN[way], rowOf(other) - rowOf(cell))\n                && ", "return ");
        to.say("and columns likewise (where it goes neither more nor less, any).", RowSentences::turningByColumns,
            "side * by > 0", "side * by >= 0",
            "side == 0 ||", "side == 0 && by == 0 ||",
            "columnOf(other) - columnOf(cell)", "columnOf(cell) - columnOf(other)",
            "\n                && isOnSide(RIGHT[way], columnOf(other) - columnOf(cell));", ";");
    }

    private static void rows(Sentences to) {
        to.say("STEPS of two HEAPS: the fewest goings so", RowSentences::fewestGoings,
            "step < MOST_HEAPS && newest != 0", "step < MOST_HEAPS - 1 && newest != 0",
            "for (int step = 1; step", "for (int step = 2; step",
            "newest = onwardFrom(newest) & ~(come | without);", "newest = onwardFrom(newest) & -onwardFrom(newest) & ~(come | without);");
        to.say("(0: one HEAP;", RowSentences::stepsOfOne,
            "if (one == other) return 0;", "",
            "if (one == other) return 0;", "if (one == other) return NOWHERE;");
        to.say("-5: none).", RowSentences::noSteps,
            "return NOWHERE;\n        }\n\n        private int onwardFrom", "return 0;\n        }\n\n        private int onwardFrom",
            "NOWHERE = -5", "NOWHERE = -7");
        to.say("VIA: the least HEAP to which one goes first in a row of so few", RowSentences::via,
            FIRST_BY, "for (int i = linked - 1; i >= 0; i--) {\n                if (isGoing(one, i)",
            "isGoing(one, i) && ", "",
            " && fewest(i, other, 0) == fewest - 1", "",
            "fewest(i, other, 0) == fewest - 1", "fewest(i, other, 0) <= fewest");
        to.say("(-5: there is none, or it is one HEAP).", RowSentences::noVia,
            "if (fewest == NOWHERE || fewest == 0) return NOWHERE;", "if (fewest == 0) return one;",
            "if (fewest == NOWHERE || fewest == 0) return NOWHERE;", "if (fewest == NOWHERE) return other;");
        to.say("CUTS of two HEAPS: those (neither of the two) such that, if one went not by that one, there were no STEPS,"
            + " as bits", RowSentences::cuts,
            "i != one && i != other && ", "i != one && ",
            "fewest(one, other, 1 << i) == NOWHERE", "fewest(one, other, 1 << i) != fewest(one, other, 0)",
            "fewest(one, other, 1 << i) == NOWHERE", "fewest(one, other, 1 << i) != NOWHERE",
            "1 << i) == NOWHERE) bits |= 1 << i;", "1 << i) == NOWHERE) bits = 1 << i;",
            "& ~(come | without)", "& ~come",
            "int bits = 0;\n            for (int i = 0; i < linked; i++) {\n                if (i != one", "int bits = 0;\n            for (int i = 1; i < linked; i++) {\n                if (i != one");
        to.say("(0, if there are none anyhow).", RowSentences::noCuts,
            "if (fewest(one, other, 0) == NOWHERE) return 0;", "",
            "if (fewest(one, other, 0) == NOWHERE) return 0;", "if (fewest(one, other, 0) == NOWHERE) return NOWHERE;");
        to.say("BEARS of two HEAPS: the greatest SNOW (0 .. 9) with which, all else as it is, there are STEPS",
            RowSentences::bears,
            "for (int snow = 9; snow >= 0; snow--) {", "for (int snow = 8; snow >= 0; snow--) {",
            "for (int snow = 9; snow >= 0; snow--) {", "for (int snow = 10; snow >= 0; snow--) {",
            "for (int snow = 9; snow >= 0; snow--) {", "for (int snow = 9; snow > 0; snow--) {",
            "for (int snow = 9; snow >= 0; snow--) {", "for (int snow = 0; snow <= 9; snow++) {",
            "for (int snow = 9; snow >= 0; snow--) {", "for (int snow = scene.snow; snow >= 0; snow--) {",
            "if (goings.fewest(one, other, 0) != NOWHERE) return snow;", "if (goings.fewest(one, other, 1) != NOWHERE) return snow;",
            "facts[5] = withSnow;", "facts[5] = snow;",
            "return heap.reachBy(plain, withSnow);", "return heap.reachBy(plain, snow);");
        to.say("(-5: none).", RowSentences::bearsNone,
            "return snow;\n        }\n        return NOWHERE;", "return snow;\n        }\n        return 0;",
            "return snow;\n        }\n        return NOWHERE;", "return snow;\n        }\n        return NONE;");
    }

    private static void building(Sentences to) {
        to.say("BUILD of two HEAPS: the CELL without a HEAP such that,", RowSentences::buildOnFreeCell,
            "if (scene.isTaken(cell)) continue;", "",
            "if (scene.isTaken(cell)) continue;", "if (!scene.isTaken(cell)) continue;",
            "int best = NOWHERE;\n            for (int cell = 0; cell < CELLS", "int best = NOWHERE;\n            for (int cell = 1; cell < CELLS",
            "int best = NOWHERE;\n            for (int cell = 0; cell < CELLS", "int best = NOWHERE;\n            for (int cell = 0; cell < CELLS - 1",
            "int best = NOWHERE;\n            for (int cell = 0; cell < CELLS", "int best = NOWHERE;\n            for (int cell = 0; cell <= CELLS");
        to.say("with one of KIND 0, v 0 there (its number behind all others),", RowSentences::whatIsBuilt,
            "new Heap(0, 0, 0, 0)", "new High(1, 0, 9, 0)",
            "new Heap(0, 0, 0, 0)", "new Heap(1, 0, 0, 0)",
            "spare.number = number;", "spare.number = 7;",
            "spare.cell = cell;", "");
        to.say("STEPS are fewest", RowSentences::buildForFewest,
            "best = cell;", "best = cell;\n                    break;",
            "least = then;", "");
        to.say("(of several the least;", RowSentences::buildLeast,
            "then < least)) {", "then <= least)) {");
        to.say("-5: by none are they fewer than now, nor are there any, if there are none now;", RowSentences::buildNowhere,
            "int least = fewest(one, other, 0);", "int least = NOWHERE;",
            "int least = fewest(one, other, 0);", "int least = fewest(one, other, 1);",
            BETTER, "if (least == NOWHERE || then < least) {",
            BETTER, "if (then != NOWHERE && then < least) {");
        to.say("also with 8 HEAPS).", RowSentences::buildWithEight,
            "if (scene.heapCount >= MOST_HEAPS) return NOWHERE;", "if (scene.heapCount >= MOST_HEAPS) return NONE;",
            "if (scene.heapCount >= MOST_HEAPS) return NOWHERE;", "if (scene.heapCount >= MOST_HEAPS - 1) return NOWHERE;");
    }

    private static void row() {
        MistHeaps x = sight(1, 0, 7, 3);
        x.heap(1, 6, 5);
        due("SEEN", x.steps(0, 1), 1);
        due("back", x.steps(1, 0), 1);
        due("not SEEN", x.steps(1, 2), NOWHERE);
        due("SEEN from afar, as it is HIGH", x.steps(2, 3), 1);
        due("not SEEN from the HIGH one", x.steps(3, 2), NOWHERE);
        due("to itself one goes not", looked(x, 0, 0), 0);
        due("to any other", looked(x, 0, 1, 0), NOWHERE);
    }

    private static void falseOnes() {
        for (int kind = 0; kind <= 6; kind++) {
            MistHeaps x = sight(2, 14);
            // TURNING: v 2 goes a column more.
            x.heap(kind, 2, 15);
            heaps(x, 16);
            boolean isFalse = kind == 3 || kind == 6;
            due("to KIND " + kind, x.steps(0, 1), 1);
            due("from KIND " + kind, x.steps(1, 2), isFalse ? NOWHERE : 1);
            due("by KIND " + kind, looked(x, 0, 1, 2), isFalse ? 2 : NOWHERE);
        }
    }

    /** Around CELL 14, as bits from the WAY 0 on, those to which one goes from a TURNING one there. */
    private static int sides(int v) {
        int[] around = {8, 9, 15, 21, 20, 19, 13, 7};
        int bits = 0;
        for (int i = 0; i < 8; i++) {
            MistHeaps x = sight(5, around[i]);
            x.heap(4, v, 14);
            bits |= x.steps(1, 0) == 1 ? 1 << i : 0;
        }
        return bits;
    }

    private static void turning() {
        int[] sides = {0b10000011, 0b00000010, 0b00001110, 0b00001000, 0b00111000, 0b00100000, 0b11100000, 0b10000000};
        for (int v = 0; v <= 7; v++) due("v " + v, sides(v), sides[v]);
        due("v 8 is as 0", sides(8), sides[0]);
        due("v 9 is as 1", sides(9), sides[1]);
        MistHeaps x = sight(5, 0);
        x.heap(4, 4, 14);
        due("to a TURNING one from any side", x.steps(0, 1), 1);
    }

    private static void turningByRows() {
        MistHeaps x = sight(5, 0, 5, 12, 17, 18, 23, 35);
        x.heap(4, 0, 14);
        for (int i = 0; i < 7; i++) due("a row less, to " + i, looked(x, 7, i), i < 2 ? NOWHERE : i);
        MistHeaps y = sight(5, 0, 5, 12, 17, 18, 23, 35);
        y.heap(4, 4, 14);
        for (int i = 0; i < 7; i++) due("a row more, to " + i, looked(y, 7, i), i > 3 ? NOWHERE : i);
    }

    private static void turningByColumns() {
        MistHeaps x = sight(5, 2, 32, 0, 30, 3, 33, 17);
        x.heap(4, 2, 14);
        for (int i = 0; i < 7; i++) due("a column more, to " + i, looked(x, 7, i), i > 3 ? NOWHERE : i);
        MistHeaps y = sight(5, 2, 32, 0, 30, 3, 33, 17);
        y.heap(4, 6, 14);
        for (int i = 0; i < 7; i++) due("a column less, to " + i, looked(y, 7, i), i == 2 || i == 3 ? NOWHERE : i);
        MistHeaps both = sight(5, 0, 5, 30, 35, 2, 17);
        both.heap(4, 3, 14);
        for (int i = 0; i < 6; i++) due("a row and a column more, to " + i, looked(both, 6, i), i == 3 ? NOWHERE : i);
    }

    private static void fewestGoings() {
        MistHeaps longest = sight(1, 0, 1, 2, 9, 16, 23, 28, 33);
        for (int i = 0; i < 8; i++) due("from 0 to " + i, longest.steps(0, i), i);
        for (int i = 0; i < 8; i++) due("from 7 to " + i, longest.steps(7, i), 7 - i);
        MistHeaps two = sight(1, 6, 1, 2, 9, 13, 20, 15);
        due("the fewer of two rows", two.steps(0, 6), 3);
        due("along the other row", two.steps(0, 3), 3);
    }

    private static void stepsOfOne() {
        MistHeaps x = ofAllKinds();
        x.set(0, 9);
        for (int i = 0; i <= 6; i++) due("KIND " + i, x.steps(i, i), 0);
    }

    private static void noSteps() {
        MistHeaps x = sight(1, 0, 1, 4, 5);
        due("a gap", x.steps(0, 3), -5);
        due("back", x.steps(2, 1), -5);
        x.heap(3, 0, 2);
        heaps(x, 3);
        due("only by a FALSE one", x.steps(0, 3), -5);
        due("the other way it is none", x.steps(3, 0), -5);
        due("as far as the FALSE one", x.steps(3, 4), 3);
    }

    private static void via() {
        MistHeaps x = sight(1, 6, 13, 1, 8, 35, 0);
        due("the least of two", x.via(0, 3), 1);
        due("back", x.via(3, 0), 1);
        due("at once, not by a lesser one", x.via(0, 2), 2);
        MistHeaps around = sight(1, 7, 0, 8, 9);
        due("not by the least, which leads no nearer", around.via(0, 3), 2);
        due("by HEAP 0", around.via(1, 3), 0);
        MistHeaps far = sight(1, 17, 3, 0, 1, 2, 10);
        due("not the least, which is near enough, but to which one goes not", far.via(2, 1), 3);
        MistHeaps beside = sight(1, 1, 7, 8, 9);
        due("not the least, from which there are as many STEPS", beside.via(1, 3), 2);
    }

    private static void noVia() {
        MistHeaps x = sight(1, 0, 1, 35);
        due("none", x.via(0, 2), -5);
        due("none back", x.via(2, 0), -5);
        for (int i = 0; i < 3; i++) due("one HEAP", x.via(i, i), -5);
    }

    private static void cuts() {
        MistHeaps x = sight(1, 0, 1, 2, 3);
        due("two", x.cuts(0, 3), 0b0110);
        due("back", x.cuts(3, 0), 0b0110);
        due("one", x.cuts(0, 2), 0b0010);
        due("at once", x.cuts(0, 1), 0);
        due("one HEAP", x.cuts(2, 2), 0);
        MistHeaps two = sight(1, 6, 13, 1, 8, 9);
        due("either of two will do", two.cuts(0, 3), 0);
        due("but not the one behind them", two.cuts(0, 4), 0b01000);
        MistHeaps longer = sight(1, 6, 7, 8, 12, 19, 14);
        due("a longer row will do", longer.cuts(0, 2), 0);
        MistHeaps most = sight(1, 0, 1, 2, 9, 16, 23, 28, 33);
        due("all between", most.cuts(0, 7), 0b01111110);
        due("HEAP 0", sight(1, 1, 0, 2).cuts(1, 2), 0b001);
    }

    private static void noCuts() {
        MistHeaps x = sight(1, 0, 1, 2, 35);
        due("none anyhow", x.cuts(0, 3), 0);
        due("nor back", x.cuts(3, 0), 0);
    }

    private static void bears() {
        for (int v = 0; v <= 9; v++) {
            MistHeaps x = sight(2, 0);
            x.heap(5, v, 1);
            heaps(x, 3);
            due("by a SNOWED one with v " + v, x.bears(0, 2), v);
            x.set(1, 9);
            due("whatever SNOW there is", x.bears(0, 2), v);
            due("from the SNOWED one", x.bears(1, 2), 9);
            due("one HEAP", x.bears(1, 1), 9);
        }
        MistHeaps just = heaps(Checks.withHill("sight 0;see 1 s=3"), 0, 1);
        due("by what the HILL says", just.bears(0, 1), 3);
        MistHeaps two = heaps(Checks.withHill("sight 0;see 1 s=3|s=6"), 0, 1);
        due("the greatest of two", two.bears(0, 1), 6);
        MistHeaps none = heaps(Checks.withHill("sight 0;see 1 s=0"), 0, 1);
        none.set(1, 5);
        due("with no SNOW alone", none.bears(0, 1), 0);
        MistHeaps misty = sight(2, 0, 1, 3);
        misty.set(0, 1);
        due("by HEAP 0", sight(1, 1, 0, 2).bears(1, 2), 9);
        due("with the MIST as it is", misty.bears(0, 1), 9);
        due("and none for that", misty.bears(0, 2), -5);
    }

    private static void bearsNone() {
        MistHeaps x = sight(1, 0, 2);
        due("too far", x.bears(0, 1), -5);
        MistHeaps more = heaps(Checks.withHill("sight 0;see 1 s>9"), 0, 1);
        due("there is no more than 9", more.bears(0, 1), -5);
        MistHeaps closed = new MistHeaps();
        closed.heap(6, 0, 0);
        heaps(closed, 1);
        due("from an OLD one", closed.bears(0, 1), -5);
    }

    private static void buildOnFreeCell() {
        MistHeaps x = sight(3, 0, 5);
        x.heap(3, 0, 2);
        due("not where a FALSE one is", x.build(0, 1, 0), 3);
        MistHeaps first = heaps(Checks.withHill("sight 1;see 4 h=2"), 30, 7);
        due("the first CELL", first.build(0, 1, 0), 0);
        MistHeaps last = heaps(Checks.withHill("sight 3;hide 9 h=2;see 15 h=2&r=5&c=5"), 0, 17);
        due("the last CELL", last.build(0, 1, 0), 35);
        MistHeaps beyond = heaps(Checks.withHill("sight 1;see 9 r>5"), 0, 30);
        due("no CELL beyond the last", beyond.build(0, 1, 0), NOWHERE);
    }

    private static void whatIsBuilt() {
        MistHeaps number = heaps(Checks.withHill("sight 1;see 9 h=2"), 0, 5);
        due("its number", number.build(0, 1, 0), 4);
        MistHeaps other = heaps(Checks.withHill("sight 1;see 9 h=3|h=7"), 0, 5);
        due("no other number", other.build(0, 1, 0), NOWHERE);
        MistHeaps kind = heaps(Checks.withHill("sight 1;see 9 k=0&h=2"), 0, 5);
        due("its KIND", kind.build(0, 1, 0), 4);
        MistHeaps plain = sight(1, 0, 3);
        due("its REACH is a plain one's", plain.build(0, 1, 0), NOWHERE);
        MistHeaps row = heaps(Checks.withHill("sight 3;hide 9 r=0&h=2"), 0, 5);
        due("on its CELL", row.build(0, 1, 0), 8);
        due("nothing is built", row.count(0), 2);
    }

    private static void buildForFewest() {
        MistHeaps none = sight(2, 0, 28, 16);
        due("there are none now", none.steps(0, 1), NOWHERE);
        due("by CELL 2 there are 3, by CELL 14 there are 2", none.build(0, 1, 0), 14);
        due("so many", none.build(0, 1, 1), 2);
        MistHeaps later = sight(2, 35, 7, 19);
        due("by CELL 21 there are 2, by CELL 33 there are 3", later.build(0, 1, 0), 21);
        due("as many", later.build(0, 1, 1), 2);
        MistHeaps some = sight(2, 0, 12, 24, 26, 28);
        due("there are some now", some.steps(0, 4), 3);
        due("by CELL 14 there are fewer", some.build(0, 4, 0), 14);
        due("one fewer", some.build(0, 4, 1), 2);
        MistHeaps three = sight(1, 1, 0, 3);
        due("by two HEAPS", three.build(1, 2, 1), 3);
    }

    private static void buildLeast() {
        MistHeaps x = sight(3, 0, 5);
        due("the least of several", x.build(0, 1, 0), 2);
        due("as few by the greater one", sightWithout(2).build(0, 1, 1), 2);
        MistHeaps y = sight(2, 30, 8);
        due("the least of others", y.build(0, 1, 0), 18);
    }

    /** Heaps 0 and 5, and a FALSE one on that cell. */
    private static MistHeaps sightWithout(int cell) {
        MistHeaps x = sight(3, 0, 5);
        x.heap(3, 0, cell);
        return x;
    }

    private static void buildNowhere() {
        MistHeaps near = sight(1, 0, 1, 2);
        due("by none are they fewer", near.build(0, 1, 0), -5);
        due("so many", near.build(0, 1, 1), -5);
        due("two are the fewest", near.build(0, 2, 0), -5);
        due("one HEAP", near.build(0, 0, 0), -5);
        due("there are as few by HEAP 0", sight(1, 1, 0, 2).build(1, 2, 0), -5);
        MistHeaps far = sight(1, 0, 3);
        due("nor are there any", far.build(0, 1, 0), -5);
        due("nor so many", far.build(0, 1, 1), -5);
        MistHeaps none = sight(1, 0, 2);
        due("there are, where there were none", none.build(0, 1, 0), 1);
        MistHeaps closed = new MistHeaps();
        closed.heap(3, 0, 0);
        heaps(closed, 5);
        due("from a FALSE one", closed.build(0, 1, 0), -5);
    }

    private static void buildWithEight() {
        MistHeaps x = sight(1, 0, 2, 4, 12, 14, 16, 24);
        due("with 7", x.build(0, 1, 0), 1);
        due("with 7, so many", x.build(0, 1, 1), 2);
        heaps(x, 26);
        due("with 8", x.build(0, 1, 0), -5);
        due("with 8, so many", x.build(0, 1, 1), -5);
    }

    private static void sees() {
        MistHeaps x = sight(1, 0, 2, 4, 13, 15, 17, 27, 35);
        due("the first", x.sees(0), 0b00000001);
        due("the last", x.sees(35), 0b10000000);
        due("several", x.sees(8), 0b00011010);
        due("others", x.sees(7), 0b00001011);
        due("none", x.sees(30), 0);
        Checks.hill(x, "sight 5");
        due("all", x.sees(14), 0b11111111);
        due("no HEAPS", new MistHeaps().sees(14), 0);
    }

    private static void where() {
        MistHeaps x = sight(1, 0, 2, 35);
        due("none", x.where(0), ALL & ~cells(0, 1, 2, 3, 6, 7, 8, 9, 28, 29, 34, 35));
        due("just 0", x.where(1), cells(0, 6));
        due("just 1", x.where(2), cells(2, 3, 8, 9));
        due("0 and 1", x.where(3), cells(1, 7));
        due("just 2", x.where(4), cells(28, 29, 34, 35));
        due("0 and 2", x.where(5), 0);
        due("all", x.where(7), 0);
        due("no HEAPS", new MistHeaps().where(0), ALL);
    }
}
