/** The promises, each sentence of each. */
final class PromiseSentences extends Given {
    private static final String NO_HEAPS = "if (!scene.areHeaps(one, other)) return NONE;\n        goings.link(scene, scene.snow);\n        return goings.";
    private static final String BEST = "if (!isCell(cell) || !isCell(other) || k < 0 || k >= MOST_STEPS) return NONE;";
    private static final String BEST_N = "if (n < 1 || n > MOST_STEPS) return BAD;\n        if (k >= n) return NONE;\n        chances.search(scene, cell, 1L";
    private static final String BEST_ODDS = "|| n < 1 || n > MOST_STEPS || part < 0 || part > 1) return NO;";
    private static final String SAFE = "if (!isCell(cell) || k < 0 || k >= MOST_STEPS) return NONE;";
    private static final String SAFE_N = "if (n < 1 || n > MOST_STEPS) return BAD;\n        if (k >= n) return NONE;\n        chances.search(scene, cell, ALL";

    static void tell(Sentences to) {
        hills(to);
        heaps(to);
        rows(to);
        steps(to);
        searches(to);
        lines(to);
        acts(to);
        images(to);
    }

    private static void hills(Sentences to) {
        to.section(1);
        to.say("MistHeaps(): No HEAPS, no HILL.", PromiseSentences::newObject,
            "int hills;", "int hills = 1;",
            "int tapeSize;", "int tapeSize = 1;",
            "int bookSize;", "int bookSize = 1;",
            "int sight = SIGHT_WITHOUT;", "int sight;",
            "isKept = false;", "isKept = true;");
        to.section(2);
        to.say("int feed(int sign): A sign (0 .. 127) comes behind THE TAPE's: how many it has.", PromiseSentences::feed,
            "scene.tapeSize++;\n        return scene.tapeSize;", "scene.tapeSize++;\n        return scene.tapeSize - 1;",
            "scene.tape[scene.tapeSize] = sign;", "scene.tape[0] = sign;",
            "if (sign < 0 || sign > 127)", "if (sign < 1 || sign > 127)",
            "if (sign < 0 || sign > 127)", "if (sign < 0 || sign > 126)");
        to.say("BAD;", PromiseSentences::feedBad,
            "if (sign < 0 || sign > 127)", "if (sign < -1 || sign > 127)",
            "if (sign < 0 || sign > 127)", "if (sign < 0 || sign > 128)",
            "if (sign < 0 || sign > 127) return BAD;", "if (sign < 0 || sign > 127) return NONE;");
        to.say("FULL.", PromiseSentences::feedFull,
            "scene.tapeSize >= MOST_SIGNS", "scene.tapeSize >= MOST_SIGNS - 1",
            "if (scene.tapeSize >= MOST_SIGNS) return FULL;", "if (scene.tapeSize >= MOST_SIGNS) return BAD;");
        to.section(3);
        to.say("int hill(): THE TAPE, which is empty then, is a HILL, and holds: its number;", PromiseSentences::hill,
            "scene.tapeSize = 0;\n        if (fault != NONE) return FAULTY - fault;", "if (fault != NONE) return FAULTY - fault;",
            "scene.hill = blank;", "",
            "return scene.hills - 1;", "return scene.hills;",
            "blank = new Hill();\n        scene.hills++;", "scene.hills++;");
        to.say("-10 less the FAULT (the one that held holds).", PromiseSentences::hillFault,
            "FAULTY = -10", "FAULTY = -11",
            "return FAULTY - fault;", "return FAULTY + fault;",
            "if (fault != NONE) return FAULTY - fault;\n        scene.hill = blank;", "scene.hill = blank;\n        if (fault != NONE) return FAULTY - fault;",
            "scene.tapeSize = 0;\n        if (fault != NONE) return FAULTY - fault;", "if (fault != NONE) return FAULTY - fault;\n        scene.tapeSize = 0;");
        to.say("FULL (THE TAPE stays).", PromiseSentences::hillFull,
            "if (scene.hills >= MOST_HILLS) return FULL;", "if (scene.hills >= MOST_HILLS) scene.tapeSize = 0;\n        if (scene.hills >= MOST_HILLS) return FULL;",
            "if (scene.hills >= MOST_HILLS) return FULL;", "",
            "if (scene.hills >= MOST_HILLS) return FULL;", "if (scene.hills > MOST_HILLS) return FULL;");
        to.section(4);
        to.say("int edges(long cells): EDGES become bits of CELLS: how many there were.", PromiseSentences::edges,
            "scene.edges = cells;", "scene.edges |= cells;",
            "return were;", "return Long.bitCount(cells);",
            "ALL_CELLS = (1L << CELLS) - 1", "ALL_CELLS = (1L << CELLS - 1) - 1");
        to.say("BAD: other bits.", PromiseSentences::edgesBad,
            "ALL_CELLS = (1L << CELLS) - 1", "ALL_CELLS = (2L << CELLS) - 1",
            "if ((cells & ~ALL_CELLS) != 0) return BAD;", "",
            "if ((cells & ~ALL_CELLS) != 0) return BAD;", "cells &= ALL_CELLS;");
        to.section(5);
        to.say("int set(int what, int n): What 0 MIST, 1 SNOW becomes n: what it was.", PromiseSentences::set,
            "if (what == 0) scene.mist = n;", "if (what == 1) scene.mist = n;",
            "return was;", "return n;",
            "else scene.snow = n;", "");
        to.say("NONE;", PromiseSentences::setNone,
            "if (what < 0 || what > 1) return NONE;", "if (what < -1 || what > 1) return NONE;",
            "if (what < 0 || what > 1) return NONE;", "if (what < 0 || what > 2) return NONE;",
            "if (what < 0 || what > 1) return NONE;", "if (what < 0 || what > 1) return BAD;");
        to.say("BAD.", PromiseSentences::setBad,
            "if (n < 0 || n > 9) return BAD;", "if (n < -1 || n > 9) return BAD;",
            "if (n < 0 || n > 9) return BAD;", "if (n < 0 || n > 10) return BAD;",
            "if (n < 0 || n > 9) return BAD;", "n = Math.max(0, Math.min(9, n));");
        to.section(6);
        to.say("int told(int what): What 0 MIST, 1 SNOW, 2 sight, 3 how many EDGES.", PromiseSentences::told,
            "case 0: return scene.mist;", "case 0: return scene.snow;",
            "case 1: return scene.snow;", "case 1: return scene.mist;",
            "case 2: return scene.hill.sight;", "case 2: return Math.max(0, scene.hill.sight - scene.mist);",
            "case 3: return Long.bitCount(scene.edges);", "case 3: return Integer.bitCount((int) scene.edges);");
        to.say("NONE.", PromiseSentences::toldNone,
            "case 3: return Long.bitCount(scene.edges);\n            default: return NONE;", "case 3: return Long.bitCount(scene.edges);\n            default: return 0;",
            "case 3: return Long.bitCount(scene.edges);\n            default: return NONE;", "default: return Long.bitCount(scene.edges);");
    }

    private static void heaps(Sentences to) {
        to.section(7);
        to.say("int heap(int kind, int v, int cell): A HEAP: its number.", PromiseSentences::heap,
            "heapOfKind(kind, scene.heapCount, v, cell)", "heapOfKind(kind, scene.heapCount, cell % 10, cell)",
            "heapOfKind(kind, scene.heapCount, v, cell)", "heapOfKind(0, scene.heapCount, v, cell)",
            "return scene.heapCount - 1;", "return scene.heapCount;");
        to.say("NONE: kind, cell;", PromiseSentences::heapNone,
            "kind < 0 || kind >= KINDS || !isCell(cell)", "kind < -1 || kind >= KINDS || !isCell(cell)",
            "kind < 0 || kind >= KINDS || !isCell(cell)", "kind < 0 || kind > KINDS || !isCell(cell)",
            "kind < 0 || kind >= KINDS || !isCell(cell)", "kind < 0 || kind >= KINDS");
        to.say("BAD: v;", PromiseSentences::heapBad,
            "if (v < 0 || v > 9) return BAD;", "if (v < -1 || v > 9) return BAD;",
            "if (v < 0 || v > 9) return BAD;", "if (v < 0 || v > 10) return BAD;",
            "if (v < 0 || v > 9) return BAD;", "if (v < 0 || v > 9) return NONE;");
        to.say("STATE: another one has that CELL;", PromiseSentences::heapState,
            "if (scene.isTaken(cell)) return STATE;", "",
            "if (scene.isTaken(cell)) return STATE;", "if (scene.isTaken(cell)) return FULL;");
        to.say("FULL.", PromiseSentences::heapFull,
            "if (scene.heapCount >= MOST_HEAPS) return FULL;", "if (scene.heapCount >= MOST_HEAPS - 1) return FULL;",
            "if (scene.heapCount >= MOST_HEAPS) return FULL;", "if (scene.heapCount >= MOST_HEAPS) return STATE;");
        to.section(8);
        to.say("int of(int heap, int what): Of a HEAP what 0 KIND, 1 v, 2 CELL, 3 REACH.", PromiseSentences::of,
            "case 0: return asked.kind;", "case 0: return asked.number;",
            "case 1: return asked.v;", "case 1: return asked.kind;",
            "case 2: return asked.cell;", "case 2: return asked.v;",
            "case 3: return scene.reachOf(asked, scene.snow);", "case 3: return scene.reachOf(asked, 0);");
        to.say("NONE.", PromiseSentences::ofNone,
            "if (asked == null) return NONE;", "if (asked == null) return 0;",
            "case 3: return scene.reachOf(asked, scene.snow);\n            default: return NONE;", "default: return scene.reachOf(asked, scene.snow);");
    }

    private static void rows(Sentences to) {
        to.section(9);
        to.say("int sees(int cell): SEES of a CELL, as bits.", PromiseSentences::sees,
            "return goings.seenFrom(scene, cell);", "return Integer.bitCount(goings.seenFrom(scene, cell));",
            "return goings.seenFrom(scene, cell);", "return goings.seenFrom(scene, 0);",
            "goings.measure(scene, scene.snow);\n        return goings.seenFrom", "return goings.seenFrom");
        to.say("NONE.", PromiseSentences::seesNone,
            "if (!isCell(cell)) return NONE;\n        goings.measure", "if (!isCell(cell)) return 0;\n        goings.measure",
            "if (!isCell(cell)) return NONE;\n        goings.measure", "goings.measure");
        to.section(10);
        to.say("long where(int set): WHERE by a set of HEAPS, as bits.", PromiseSentences::where,
            "return cells;\n    }\n\n    public int steps", "return Long.bitCount(cells);\n    }\n\n    public int steps",
            "goings.measure(scene, scene.snow);\n        long cells", "long cells",
            "set >= 1 << scene.heapCount", "set >= (1 << scene.heapCount) - 1");
        to.say("NO: bits of HEAPS that are not there.", PromiseSentences::whereNo,
            "set < 0 || set >= 1 << scene.heapCount", "set >= 1 << scene.heapCount",
            "set < 0 || set >= 1 << scene.heapCount", "set < 0 || set > 1 << scene.heapCount",
            "set < 0 || set >= 1 << scene.heapCount", "set < 0 || set >= 1 << MOST_HEAPS");
        to.section(11);
        to.say("int steps(int one, int other): STEPS; -5.", PromiseSentences::steps,
            NO_HEAPS + "fewest(one, other, 0)", NO_HEAPS + "fewest(other, one, 0)",
            NO_HEAPS + "fewest(one, other, 0)", "if (!scene.areHeaps(one, other)) return NONE;\n        return goings.fewest(one, other, 0)",
            "NOWHERE = -5", "NOWHERE = -1");
        to.say("NONE.", PromiseSentences::stepsNone,
            NO_HEAPS + "fewest", NO_HEAPS.replace("NONE", "NOWHERE") + "fewest",
            "return heapAt(one) != null && heapAt(other) != null;", "return heapAt(one) != null;",
            "return heapAt(one) != null && heapAt(other) != null;", "return heapAt(other) != null;");
        to.section(12);
        to.say("int via(int one, int other): VIA; -5.", PromiseSentences::via,
            "goings.first(one, other)", "goings.first(other, one)",
            "goings.first(one, other)", "goings.fewest(one, other, 0)");
        to.say("NONE.", PromiseSentences::viaNone,
            NO_HEAPS + "first", NO_HEAPS.replace("NONE", "NOWHERE") + "first",
            "return heapAt(one) != null && heapAt(other) != null;", "return heapAt(one) != null || heapAt(other) != null;");
        to.section(13);
        to.say("int cuts(int one, int other): CUTS, as bits.", PromiseSentences::cuts,
            "goings.breaks(one, other)", "Integer.bitCount(goings.breaks(one, other))",
            "goings.breaks(one, other)", "goings.breaks(other, one)");
        to.say("NONE.", PromiseSentences::cutsNone,
            NO_HEAPS + "breaks", NO_HEAPS.replace("NONE", "0") + "breaks",
            "return heapAt(one) != null && heapAt(other) != null;", "return heapAt(one) != null || heapAt(other) != null;");
        to.section(14);
        to.say("int bears(int one, int other): BEARS; -5.", PromiseSentences::bears,
            "if (goings.fewest(one, other, 0) != NOWHERE) return snow;", "if (goings.fewest(other, one, 0) != NOWHERE) return snow;",
            "if (goings.fewest(one, other, 0) != NOWHERE) return snow;", "if (goings.fewest(one, other, 0) > 0) return snow;");
        to.say("NONE.", PromiseSentences::bearsNone,
            "if (!scene.areHeaps(one, other)) return NONE;\n        for", "if (!scene.areHeaps(one, other)) return NOWHERE;\n        for",
            "return heapAt(one) != null && heapAt(other) != null;", "return heapAt(one) != null || heapAt(other) != null;");
        to.section(15);
        to.say("int build(int one, int other, int what): BUILD: what 0 the CELL, 1 STEPS then; -5.", PromiseSentences::build,
            "if (cell == NOWHERE || what == 0) return cell;", "if (cell == NOWHERE || what == 1) return cell;",
            "goings.bestCell(scene, one, other)", "goings.bestCell(scene, other, one)",
            "goings.join(scene, cell);\n        return", "return");
        to.say("NONE.", PromiseSentences::buildNone,
            "|| what < 0 || what > 1) return NONE;", "|| what < 0) return NONE;",
            "|| what < 0 || what > 1) return NONE;", "|| what > 1) return NONE;",
            "|| what < 0 || what > 1) return NONE;", "|| what < 0 || what > 1) return NOWHERE;");
    }

    private static void steps(Sentences to) {
        to.section(16);
        to.say("int drift(int cell): DRIFT on a CELL.", PromiseSentences::drift,
            "isCell(cell) ? scene.driftOn(cell)", "isCell(cell) ? scene.driftOn(0)",
            "MOST_DRIFT = 5", "MOST_DRIFT = 99");
        to.say("NONE.", PromiseSentences::driftNone,
            "scene.driftOn(cell) : NONE", "scene.driftOn(cell) : 0",
            "isCell(cell) ? scene.driftOn(cell)", "cell != 36 ? scene.driftOn(cell)");
        to.section(17);
        to.say("int walk(int way): A WAY comes to THE WALK: how many it has (-1: none then, 0).", PromiseSentences::walk,
            "scene.walkSize++;\n        return scene.walkSize;", "scene.walkSize++;\n        return scene.walkSize - 1;",
            "if (way == -1) {\n            scene.walkSize = 0;", "if (way == -1) {",
            "if (way == -1) {\n            scene.walkSize = 0;", "if (way == -1) {\n            scene.walkSize = Math.max(0, scene.walkSize - 1);",
            "scene.walkSize = 0;\n            return 0;", "scene.walkSize = 0;\n            return NONE;");
        to.say("NONE;", PromiseSentences::walkNone,
            "if (way < 0 || way >= WAYS) return NONE;", "if (way < 0 || way > WAYS) return NONE;",
            "if (way < 0 || way >= WAYS) return NONE;", "if (way < 0 || way >= WAYS) return BAD;",
            "if (way == -1) {", "if (way < 0) {");
        to.say("FULL: 6.", PromiseSentences::walkFull,
            "MOST_WALKED = 6", "MOST_WALKED = 5",
            "MOST_WALKED = 6", "MOST_WALKED = 7",
            "if (scene.walkSize >= MOST_WALKED) return FULL;", "if (scene.walkSize >= MOST_WALKED) return STATE;");
        to.section(18);
        to.say("long odds(int cell, int what, int part): ODDS by THE WALK from a CELL: what 0 .. 35 of that CELL, 40 of OVER,"
            + " 50 and h of SEEN of HEAP h; part 0 above, 1 below the line.", PromiseSentences::odds,
            "if (isCell(what)) {", "if (what >= 0 && what < CELLS - 1) {",
            "if (isCell(what)) {", "if (what > 0 && what < CELLS) {",
            "ODDS_OF_OVER = 40", "ODDS_OF_OVER = 36",
            "ODDS_OF_SEEN = 50", "ODDS_OF_SEEN = 41",
            "what - ODDS_OF_SEEN < scene.heapCount", "what - ODDS_OF_SEEN < scene.heapCount - 1",
            "what >= ODDS_OF_SEEN &&", "what > ODDS_OF_SEEN &&",
            "(part == 0 ? above : below)", "(part == 1 ? above : below)");
        to.say("NO.", PromiseSentences::oddsNo,
            "if (!isCell(cell) || part < 0 || part > 1) return NO;", "if (!isCell(cell) || part > 1) return NO;",
            "if (!isCell(cell) || part < 0 || part > 1) return NO;", "if (!isCell(cell) || part < 0) return NO;",
            "if (!isCell(cell) || part < 0 || part > 1) return NO;", "if (part < 0 || part > 1) return NO;",
            "what >= ODDS_OF_SEEN &&", "",
            "what - ODDS_OF_SEEN < scene.heapCount", "what - ODDS_OF_SEEN <= scene.heapCount",
            "return NO;\n        }\n        long times", "asked = 0;\n        }\n        long times",
            "if (isCell(what)) {", "if (what >= 0 && what <= CELLS) {",
            "if (isCell(what)) {", "if (what >= -1 && what < CELLS) {");
    }

    private static void searches(Sentences to) {
        to.section(19);
        to.say("int best(int cell, int other, int n, int k): BEST of n: the k-th WAY of the row.", PromiseSentences::best,
            "foundRow >> 3 * (n - 1 - k) & 7", "foundRow >> 3 * k & 7",
            "chances.search(scene, cell, 1L << other, n);\n        return chances.foundWay", "chances.search(scene, other, 1L << cell, n);\n        return chances.foundWay");
        to.say("NONE: cells, k (not 0 .. 2);", PromiseSentences::bestNone,
            BEST, BEST.replace("!isCell(cell) || ", ""),
            BEST, BEST.replace("!isCell(other) || ", ""),
            BEST, BEST.replace("k < 0 || ", ""),
            BEST, BEST.replace("|| k >= MOST_STEPS", ""),
            BEST, BEST.replace("NONE", "BAD"));
        to.say("BAD: n;", PromiseSentences::bestBad,
            BEST_N, BEST_N.replace("n < 1 || ", ""),
            BEST_N, BEST_N.replace(" || n > MOST_STEPS", ""),
            BEST_N, BEST_N.replace("BAD", "NONE"),
            BEST_N, "if (k >= n) return NONE;\n        if (n < 1 || n > MOST_STEPS) return BAD;\n        chances.search(scene, cell, 1L");
        to.say("NONE: k is n or more.", PromiseSentences::bestBeyondRow,
            BEST_N, BEST_N.replace("k >= n", "k > n"),
            BEST_N, BEST_N.replace("if (k >= n) return NONE;", "if (k >= n) return BAD;"));
        to.section(20);
        to.say("long bestOdds(int cell, int other, int n, int part): How likely it is by BEST; part 0 above, 1 below the line.",
            PromiseSentences::bestOdds,
            "Chances.timesOf(n), part)", "Chances.timesOf(n), 1 - part)",
            "chances.search(scene, cell, 1L << other, n);\n        return partOf", "return partOf",
            "chances.search(scene, cell, 1L << other, n);\n        return partOf", "chances.search(scene, other, 1L << cell, n);\n        return partOf");
        to.say("NO.", PromiseSentences::bestOddsNo,
            BEST_ODDS, BEST_ODDS.replace("n < 1 || ", ""),
            BEST_ODDS, BEST_ODDS.replace("n > MOST_STEPS || ", ""),
            BEST_ODDS, BEST_ODDS.replace("part < 0 || ", ""),
            BEST_ODDS, BEST_ODDS.replace(" || part > 1", ""),
            "!isCell(cell) || !isCell(other) " + BEST_ODDS, "!isCell(cell) " + BEST_ODDS,
            "!isCell(cell) || !isCell(other) " + BEST_ODDS, "!isCell(other) " + BEST_ODDS,
            BEST_ODDS, BEST_ODDS.replace("NO;", "NONE;"));
        to.section(21);
        to.say("int safe(int cell, int n, int k): SAFE of n: the k-th WAY of the row.", PromiseSentences::safe,
            "foundRow >> 3 * (n - 1 - k) & 7", "foundRow >> 3 * k & 7",
            "ALL_CELLS & ~scene.edges, n);", "scene.edges, n);");
        to.say("NONE: cell, k (not 0 .. 2);", PromiseSentences::safeNone,
            SAFE, SAFE.replace("!isCell(cell) || ", ""),
            SAFE, SAFE.replace("k < 0 || ", ""),
            SAFE, SAFE.replace(" || k >= MOST_STEPS", ""),
            SAFE, SAFE.replace("NONE", "BAD"));
        to.say("BAD: n;", PromiseSentences::safeBad,
            SAFE_N, SAFE_N.replace("n < 1 || ", ""),
            SAFE_N, SAFE_N.replace(" || n > MOST_STEPS", ""),
            SAFE_N, SAFE_N.replace("BAD", "NONE"),
            SAFE_N, "if (k >= n) return NONE;\n        if (n < 1 || n > MOST_STEPS) return BAD;\n        chances.search(scene, cell, ALL");
        to.say("NONE: k is n or more.", PromiseSentences::safeBeyondRow,
            SAFE_N, SAFE_N.replace("k >= n", "k > n"),
            SAFE_N, SAFE_N.replace("if (k >= n) return NONE;", "if (k >= n) return BAD;"));
    }

    private static void lines(Sentences to) {
        to.section(22);
        to.say("int line(int heap, int n): LINE, as bits.", PromiseSentences::line,
            "<= far) bits |= 1 << i;", "<= far) bits++;",
            "int far = (n - 1) *", "int far = n *");
        to.say("NONE;", PromiseSentences::lineNone,
            "if (from == null) return NONE;", "if (from == null) return 0;",
            "if (from == null) return NONE;", "if (from == null) return BAD;");
        to.say("BAD.", PromiseSentences::lineBad,
            "if (n < 1 || n > 9) return BAD;", "if (n < 0 || n > 9) return BAD;",
            "if (n < 1 || n > 9) return BAD;", "if (n < 1 || n > 10) return BAD;",
            "if (n < 1 || n > 9) return BAD;", "if (n < 1 || n > 9) return NONE;");
        to.section(23);
        to.say("int next(int a, int b, int c): NEXT; -5.", PromiseSentences::next,
            "Heap first = scene.heapAt(a);", "Heap first = scene.heapAt(c);",
            "Heap second = scene.heapAt(b);", "Heap second = scene.heapAt(a);",
            "isOnHill(row, column) ? row * SIDE + column : NOWHERE", "isOnHill(row, column) ? row * SIDE + column : NONE");
        to.say("NONE.", PromiseSentences::nextNone,
            "if (first == null || second == null || third == null) return NONE;", "if (first == null || second == null || third == null) return NOWHERE;",
            "if (first == null || second == null || third == null) return NONE;", "if (second == null || third == null) return NONE;",
            "if (first == null || second == null || third == null) return NONE;", "if (first == null || third == null) return NONE;",
            "if (first == null || second == null || third == null) return NONE;", "if (first == null || second == null) return NONE;");
        to.section(24);
        to.say("int book(int heap): A HEAP comes to the BOOK: how many there are (-1: it is empty then, 0).", PromiseSentences::book,
            "scene.bookSize++;\n        return scene.bookSize;", "scene.bookSize++;\n        return heap;",
            "if (heap == -1) {\n            scene.bookSize = 0;", "if (heap == -1) {",
            "scene.bookSize = 0;\n            return 0;", "scene.bookSize = 0;\n            return NONE;");
        to.say("NONE;", PromiseSentences::bookNone,
            "if (scene.heapAt(heap) == null) return NONE;", "if (scene.heapAt(heap) == null) return BAD;",
            "if (scene.heapAt(heap) == null) return NONE;", "if (heap < 0 || heap >= MOST_HEAPS) return NONE;",
            "if (heap == -1) {", "if (heap < 0) {");
        to.say("FULL: 12.", PromiseSentences::bookFull,
            "MOST_BOOKED = 12", "MOST_BOOKED = 11",
            "MOST_BOOKED = 12", "MOST_BOOKED = 13",
            "if (scene.bookSize >= MOST_BOOKED) return FULL;", "if (scene.bookSize >= MOST_BOOKED) return STATE;");
        to.section(25);
        to.say("int looked(): LOOKED at; -5.", PromiseSentences::lookedAt,
            "return scene.book[i];\n        }\n        return NOWHERE;", "return scene.book[i];\n        }\n        return NONE;",
            "goings.link(scene, scene.snow);\n        for", "for",
            "if (!goings.isGoing(scene.book[i - 1], scene.book[i]))", "if (goings.isGoing(scene.book[i - 1], scene.book[i]))");
    }

    private static void acts(Sentences to) {
        to.section(26);
        to.say("int act(int heap, int act, int x): An ACT (0 sees, 1 goes, 2 looks) of a HEAP with x.", PromiseSentences::act,
            "case 0: return actor.doSees(x, bodies);", "case 0: return actor.doGoes(x, bodies);",
            "case 1: return actor.doGoes(x, bodies);", "case 1: return actor.doSees(x, bodies);",
            "case 2: return actor.doLooks(x, bodies);", "case 2: return actor.doGoes(x, bodies);");
        to.say("0, and no TRACE then: no such HEAP, act.", PromiseSentences::noAct,
            "if (actor == null) return 0;", "if (actor == null) return NONE;",
            "bodies.clear();\n        Heap actor = scene.heapAt(heap);\n        if (actor == null) return 0;",
            "Heap actor = scene.heapAt(heap);\n        if (actor == null) return 0;\n        bodies.clear();",
            "case 2: return actor.doLooks(x, bodies);\n            default: return 0;", "default: return actor.doLooks(x, bodies);",
            "case 2: return actor.doLooks(x, bodies);\n            default: return 0;", "case 2: return actor.doLooks(x, bodies);\n            default: return NONE;");
        to.section(27);
        to.say("int trace(int i): THE TRACE's i-th body.", PromiseSentences::trace,
            "? bodies.get(i) : NONE", "? bodies.get(bodies.size() - 1 - i) : NONE",
            "i < bodies.size() ?", "i < bodies.size() - 1 ?",
            "return i >= 0 &&", "return i > 0 &&");
        to.say("NONE.", PromiseSentences::traceNone,
            "? bodies.get(i) : NONE", "? bodies.get(i) : 0",
            "return i >= 0 && i < bodies.size()", "return i >= 0 && i <= bodies.size()",
            "return i >= 0 && i < bodies.size()", "return i < bodies.size()");
        to.section(28);
        to.say("int as(int heap, int k): A HEAP taken for a KIND k (0 .. 6), or one under that: its v.", PromiseSentences::as,
            "taken.isOfKind(k) ? taken.v", "taken.isOfKind(k) ? taken.kind",
            "return taken.isOfKind(k)", "return taken.kind == k",
            "up = KIND_ABOVE[up];", "up = -1;");
        to.say("NONE: heap, k;", PromiseSentences::asNone,
            "if (taken == null || k < 0 || k >= KINDS) return NONE;", "if (taken == null || k >= KINDS) return NONE;",
            "if (taken == null || k < 0 || k >= KINDS) return NONE;", "if (taken == null || k < 0) return NONE;",
            "if (taken == null || k < 0 || k >= KINDS) return NONE;", "if (taken == null || k < 0 || k >= KINDS) return OTHER_KIND;");
        to.say("-6: it is of another KIND.", PromiseSentences::asOther,
            "OTHER_KIND = -6", "OTHER_KIND = -5",
            "taken.v : OTHER_KIND", "taken.v : NONE",
            "return taken.isOfKind(k)", "return taken.isOfKind(k) || k > taken.kind && KIND_ABOVE[k] == taken.kind");
    }

    private static void images(Sentences to) {
        to.section(29);
        to.say("int image(): THE IMAGE is taken: how many HEAPS there are.", PromiseSentences::image,
            "isKept = true;\n        return scene.heapCount;", "isKept = true;\n        return 0;",
            "isKept = true;\n        return scene.heapCount;", "return scene.heapCount;",
            "kept.copyFrom(scene);", "if (!isKept) kept.copyFrom(scene);");
        to.section(30);
        to.say("int undo(): All is as THE IMAGE: how many HEAPS.", PromiseSentences::undo,
            "scene.copyFrom(kept);\n        return scene.heapCount;", "int were = scene.heapCount;\n        scene.copyFrom(kept);\n        return were;",
            "scene.copyFrom(kept);", "",
            "walkSize = other.walkSize;", "");
        to.say("STATE: there is none.", PromiseSentences::undoState,
            "if (!isKept) return STATE;", "",
            "if (!isKept) return STATE;", "if (!isKept) return NONE;",
            "if (!isKept) return STATE;\n        scene.copyFrom(kept);", "scene.copyFrom(kept);\n        if (!isKept) return STATE;");
        to.section(31);
        to.say("int count(int what): 0 HEAPS, 1 HILLS, 2 WAYS of THE WALK, 3 of the BOOK, 4 signs of THE TAPE, 5 bodies that ran"
            + " in the latest act().", PromiseSentences::count,
            "case 0: return scene.heapCount;", "case 0: return scene.hills;",
            "case 1: return scene.hills;", "case 1: return scene.heapCount;",
            "case 2: return scene.walkSize;", "case 2: return scene.bookSize;",
            "case 3: return scene.bookSize;", "case 3: return scene.walkSize;",
            "case 4: return scene.tapeSize;", "case 4: return scene.bookSize;",
            "case 5: return bodies.size();", "case 5: return bodies.size() + 1;");
        to.say("NONE.", PromiseSentences::countNone,
            "case 5: return bodies.size();\n            default: return NONE;", "case 5: return bodies.size();\n            default: return 0;",
            "case 5: return bodies.size();\n            default: return NONE;", "default: return bodies.size();");
    }

    private static void newObject() {
        MistHeaps x = new MistHeaps();
        for (int what = 0; what <= 5; what++) due("count(" + what + ")", x.count(what), 0);
        due("no HEAP 0", x.of(0, 0), NONE);
        due("the first HEAP is 0", x.heap(0, 0, 0), 0);
        due("sight without a HILL", x.told(2), 3);
        due("the first HILL is 0", Checks.hill(x, "sight 1"), 0);
        due("no image", x.undo(), STATE);
        due("another one has nothing of it", new MistHeaps().count(0), 0);
    }

    private static void feed() {
        MistHeaps x = new MistHeaps();
        due("the least sign", x.feed(0), 1);
        due("the greatest sign", x.feed(127), 2);
        due("the first of them is the FAULT", x.hill(), -10);
        String text = "sight 7";
        for (int i = 0; i < text.length(); i++) due("sign " + i, x.feed(text.charAt(i)), i + 1);
        due("they came one behind the other", x.hill(), 0);
        due("as they are", x.told(2), 7);
    }

    private static void feedBad() {
        MistHeaps x = new MistHeaps();
        for (int sign : new int[] {MIN, -128, -1, 128, 255, MAX}) due("feed(" + sign + ")", x.feed(sign), BAD);
        due("none came", x.count(4), 0);
    }

    private static void feedFull() {
        MistHeaps x = new MistHeaps();
        for (int many = 1; many <= 100; many++) due("sign " + many, x.feed('x'), many);
        due("the 101st", x.feed('x'), FULL);
        due("again", x.feed('x'), FULL);
        due("there are", x.count(4), 100);
        x.hill();
        due("then there is room", x.feed('x'), 1);
    }

    private static void hill() {
        MistHeaps x = new MistHeaps();
        due("the first", Checks.hill(x, "sight 7;drift 2 r=0"), 0);
        due("THE TAPE is empty", x.count(4), 0);
        due("it holds", x.told(2), 7);
        due("an empty TAPE is none", x.hill(), -10);
        x.image();
        due("the next", Checks.hill(x, "sight 8"), 1);
        due("it holds", x.told(2), 8);
        due("and nothing of the first", x.drift(0), 0);
        x.undo();
        due("the first is as it was", x.told(2), 7);
        due("its drift too", x.drift(0), 2);
    }

    private static void hillFault() {
        MistHeaps x = new MistHeaps();
        due("at 0, with none that held", Checks.hill(x, "x"), -10);
        due("sight is as without", x.told(2), 3);
        Checks.hill(x, "sight 7");
        due("at 0", Checks.hill(x, ";"), -10);
        due("at 8", Checks.hill(x, "sight 8;"), -18);
        due("THE TAPE is empty", x.count(4), 0);
        due("the one that held holds", x.told(2), 7);
        due("there is no more", x.count(1), 1);
        Checks.feed(x, "x".repeat(100));
        due("at 0 of 100", x.hill(), -10);
        due("at 99", Checks.hill(x, "see 1 h=10" + "|h=10".repeat(17) + "|h=1!"), -109);
    }

    private static void hillFull() {
        MistHeaps x = new MistHeaps();
        for (int i = 0; i < 5; i++) due("HILL " + i, Checks.hill(x, "sight " + i), i);
        due("the sixth", Checks.hill(x, "sight 9"), FULL);
        due("THE TAPE stays", x.count(4), 7);
        due("the fifth holds", x.told(2), 4);
        due("FULL with a FAULT too", Checks.hill(x, ";"), FULL);
        due("and it stays", x.count(4), 8);
        MistHeaps empty = new MistHeaps();
        for (int i = 0; i < 5; i++) Checks.hill(empty, "sight " + i);
        due("FULL with an empty TAPE", empty.hill(), FULL);
    }

    private static void edges() {
        MistHeaps x = new MistHeaps();
        due("there were none", x.edges(ALL), 0);
        due("now all", x.told(3), 36);
        due("there were all", x.edges(cells(0, 35)), 36);
        due("now two", x.told(3), 2);
        due("the last CELL", x.odds(35, 40, 0), 1);
        due("no more the one ahead of it", x.odds(34, 40, 0), 0);
        due("there were two", x.edges(0), 2);
        due("there was none", x.edges(0), 0);
    }

    private static void edgesBad() {
        MistHeaps x = new MistHeaps();
        x.edges(5);
        for (int bit = 36; bit < 64; bit++) due("bit " + bit, x.edges(1L << bit | 1), BAD);
        due("all bits", x.edges(-1), BAD);
        due("EDGES stay", x.told(3), 2);
        due("the last that there is", x.edges(1L << 35), 2);
    }

    private static void set() {
        MistHeaps x = new MistHeaps();
        due("MIST was", x.set(0, 9), 0);
        due("SNOW was", x.set(1, 4), 0);
        due("MIST was then", x.set(0, 0), 9);
        due("SNOW was then", x.set(1, 9), 4);
        due("MIST is", x.told(0), 0);
        due("SNOW is", x.told(1), 9);
    }

    private static void setNone() {
        MistHeaps x = new MistHeaps();
        for (int what : new int[] {MIN, -1, 2, 3, MAX}) due("set(" + what + ", 1)", x.set(what, 1), NONE);
        due("MIST stays", x.told(0), 0);
        due("SNOW stays", x.told(1), 0);
    }

    private static void setBad() {
        MistHeaps x = new MistHeaps();
        for (int n : new int[] {MIN, -1, 10, MAX}) {
            due("MIST " + n, x.set(0, n), BAD);
            due("SNOW " + n, x.set(1, n), BAD);
        }
        due("MIST stays", x.told(0), 0);
        due("SNOW stays", x.told(1), 0);
    }

    private static void told() {
        MistHeaps x = Checks.withHill("sight 6");
        x.set(0, 2);
        x.set(1, 5);
        x.edges(cells(0, 32, 33, 35));
        int[] told = {2, 5, 6, 4};
        for (int what = 0; what <= 3; what++) due("told(" + what + ")", x.told(what), told[what]);
    }

    private static void toldNone() {
        for (int what : new int[] {MIN, -1, 4, 5, MAX}) due("told(" + what + ")", new MistHeaps().told(what), NONE);
    }

    private static void heap() {
        MistHeaps x = new MistHeaps();
        due("the first", x.heap(6, 0, 35), 0);
        due("the second", x.heap(5, 9, 0), 1);
        due("KIND", x.of(1, 0), 5);
        due("v", x.of(1, 1), 9);
        due("CELL", x.of(1, 2), 0);
        due("v of the first", x.of(0, 1), 0);
        due("CELL of the first", x.of(0, 2), 35);
    }

    private static void heapNone() {
        MistHeaps x = new MistHeaps();
        for (int kind : new int[] {MIN, -1, 7, 8, MAX}) due("KIND " + kind, x.heap(kind, 0, 0), NONE);
        for (int cell : NO_CELLS) due("CELL " + cell, x.heap(0, 0, cell), NONE);
        due("there is none", x.count(0), 0);
    }

    private static void heapBad() {
        MistHeaps x = new MistHeaps();
        for (int v : new int[] {MIN, -1, 10, MAX}) due("v " + v, x.heap(0, v, 0), BAD);
        due("there is none", x.count(0), 0);
        due("v 9", x.heap(0, 9, 0), 0);
    }

    private static void heapState() {
        MistHeaps x = heaps(new MistHeaps(), 4, 9);
        due("the first one's", x.heap(1, 1, 4), STATE);
        due("the last one's", x.heap(1, 1, 9), STATE);
        due("there are two", x.count(0), 2);
        due("the first one stays", x.of(0, 0), 0);
    }

    private static void heapFull() {
        MistHeaps x = new MistHeaps();
        for (int i = 0; i < 8; i++) due("heap " + i, x.heap(i % 7, i, i), i);
        due("the ninth", x.heap(0, 0, 8), FULL);
        due("there are", x.count(0), 8);
        due("that CELL is free", x.sees(35), 0);
    }

    private static void of() {
        MistHeaps x = heaps(new MistHeaps(), 0);
        x.heap(5, 3, 20);
        due("KIND", x.of(1, 0), 5);
        due("v", x.of(1, 1), 3);
        due("CELL", x.of(1, 2), 20);
        due("REACH", x.of(1, 3), 2);
        x.set(1, 4);
        due("REACH in SNOW", x.of(1, 3), 0);
        due("KIND of the first", x.of(0, 0), 0);
        due("REACH of the first", x.of(0, 3), 3);
    }

    private static void ofNone() {
        MistHeaps x = heaps(new MistHeaps(), 0, 1);
        for (int heap : new int[] {MIN, -1, 2, 8, MAX}) {
            for (int what = 0; what <= 3; what++) due("of(" + heap + ", " + what + ")", x.of(heap, what), NONE);
        }
        for (int what : new int[] {MIN, -1, 4, MAX}) due("of(1, " + what + ")", x.of(1, what), NONE);
    }

    private static void sees() {
        MistHeaps x = sight(1, 35, 28, 0);
        due("two", x.sees(34), 0b011);
        due("the third", x.sees(0), 0b100);
        due("none", x.sees(14), 0);
        x.set(0, 1);
        due("in MIST", x.sees(34), 0);
    }

    private static void seesNone() {
        MistHeaps x = sight(5, 0, 35);
        for (int cell : NO_CELLS) due("sees(" + cell + ")", x.sees(cell), NONE);
        due("the first CELL", x.sees(0), 0b11);
        due("the last CELL", x.sees(35), 0b11);
    }

    private static void where() {
        MistHeaps x = sight(1, 35, 0);
        due("by none", x.where(0), ALL & ~cells(0, 1, 6, 7, 28, 29, 34, 35));
        due("by the first", x.where(1), cells(28, 29, 34, 35));
        due("by the second", x.where(2), cells(0, 1, 6, 7));
        due("by both", x.where(3), 0);
        Checks.hill(x, "sight 5");
        due("by both from afar", x.where(3), ALL);
        due("none sees none", x.where(0), 0);
    }

    private static void whereNo() {
        for (int set : new int[] {MIN, -1, 1, 2, 128, 256, MAX}) due("no HEAPS, " + set, new MistHeaps().where(set), NO);
        MistHeaps x = heaps(new MistHeaps(), 0, 1, 2);
        for (int set : new int[] {MIN, MIN + 1, -1, 8, 9, 15, 16, 128, 256, MAX}) due("three HEAPS, " + set, x.where(set), NO);
        due("the last set", x.where(7) == NO ? 1 : 0, 0);
        heaps(x, 3, 4, 5, 6, 7);
        for (int set : new int[] {MIN, -1, 256, 257, MAX}) due("eight HEAPS, " + set, x.where(set), NO);
        due("the last set of eight", x.where(255) == NO ? 1 : 0, 0);
    }

    /** From heap 0 by heap 1, which is HIGH and seen from afar, to heap 2; not back. */
    private static MistHeaps oneWay() {
        MistHeaps x = sight(1, 0);
        x.heap(1, 9, 3);
        return heaps(x, 4, 35);
    }

    private static void steps() {
        MistHeaps x = oneWay();
        due("two", x.steps(0, 2), 2);
        due("none back", x.steps(2, 0), -5);
        due("one", x.steps(0, 1), 1);
        due("none", x.steps(0, 3), -5);
        due("one HEAP", x.steps(3, 3), 0);
    }

    private static void stepsNone() {
        MistHeaps x = oneWay();
        for (int heap : new int[] {MIN, -1, 4, 8, MAX}) {
            due("steps(" + heap + ", 0)", x.steps(heap, 0), NONE);
            due("steps(0, " + heap + ")", x.steps(0, heap), NONE);
            due("steps(" + heap + ", " + heap + ")", x.steps(heap, heap), NONE);
        }
    }

    private static void via() {
        MistHeaps x = oneWay();
        due("by the HIGH one", x.via(0, 2), 1);
        due("none back", x.via(2, 0), -5);
        due("none", x.via(0, 3), -5);
        due("one HEAP", x.via(1, 1), -5);
    }

    private static void viaNone() {
        MistHeaps x = oneWay();
        for (int heap : new int[] {MIN, -1, 4, 8, MAX}) {
            due("via(" + heap + ", 0)", x.via(heap, 0), NONE);
            due("via(0, " + heap + ")", x.via(0, heap), NONE);
            due("via(" + heap + ", " + heap + ")", x.via(heap, heap), NONE);
        }
    }

    private static void cuts() {
        MistHeaps x = oneWay();
        due("the HIGH one", x.cuts(0, 2), 0b0010);
        due("none back", x.cuts(2, 0), 0);
        due("one HEAP", x.cuts(1, 1), 0);
        due("at once", x.cuts(0, 1), 0);
    }

    private static void cutsNone() {
        MistHeaps x = oneWay();
        for (int heap : new int[] {MIN, -1, 4, 8, MAX}) {
            due("cuts(" + heap + ", 0)", x.cuts(heap, 0), NONE);
            due("cuts(0, " + heap + ")", x.cuts(0, heap), NONE);
            due("cuts(" + heap + ", " + heap + ")", x.cuts(heap, heap), NONE);
        }
    }

    private static void bears() {
        MistHeaps x = oneWay();
        due("any SNOW", x.bears(0, 2), 9);
        due("none back", x.bears(2, 0), -5);
        due("one HEAP", x.bears(0, 0), 9);
        x.heap(5, 6, 5);
        Checks.hill(x, "sight 2");
        due("as much as the SNOWED one", x.bears(2, 4), 6);
    }

    private static void bearsNone() {
        MistHeaps x = oneWay();
        for (int heap : new int[] {MIN, -1, 4, 8, MAX}) {
            due("bears(" + heap + ", 0)", x.bears(heap, 0), NONE);
            due("bears(0, " + heap + ")", x.bears(0, heap), NONE);
            due("bears(" + heap + ", " + heap + ")", x.bears(heap, heap), NONE);
        }
    }

    private static void build() {
        MistHeaps x = sight(1, 0);
        x.heap(3, 0, 2);
        due("the CELL", x.build(0, 1, 0), 1);
        due("STEPS then", x.build(0, 1, 1), 2);
        due("not from the FALSE one", x.build(1, 0, 0), -5);
        due("nor STEPS", x.build(1, 0, 1), -5);
        due("one HEAP", x.build(0, 0, 0), -5);
        due("nor STEPS of it", x.build(0, 0, 1), -5);
    }

    private static void buildNone() {
        MistHeaps x = sight(1, 0, 2);
        for (int heap : new int[] {MIN, -1, 2, 8, MAX}) {
            due("build(" + heap + ", 0, 0)", x.build(heap, 0, 0), NONE);
            due("build(0, " + heap + ", 1)", x.build(0, heap, 1), NONE);
        }
        for (int what : new int[] {MIN, -1, 2, MAX}) due("build(0, 1, " + what + ")", x.build(0, 1, what), NONE);
        heaps(x, 30, 31, 32, 33, 34, 35);
        due("what, with 8 HEAPS", x.build(0, 1, 2), NONE);
        due("HEAP, with 8 HEAPS", x.build(0, 8, 0), NONE);
    }

    private static void drift() {
        MistHeaps x = Checks.withHill("drift 1 r=0;drift 2 c=5;drift 9 r=5&c=5");
        due("on 0", x.drift(0), 1);
        due("on 5", x.drift(5), 3);
        due("on 35", x.drift(35), 5);
        due("on 30", x.drift(30), 0);
        due("without a HILL", new MistHeaps().drift(0), 0);
    }

    private static void driftNone() {
        MistHeaps x = Checks.withHill("drift 1 h=99");
        for (int cell : NO_CELLS) due("drift(" + cell + ")", x.drift(cell), NONE);
        due("on the first", x.drift(0), 1);
        due("on the last", x.drift(35), 1);
    }

    private static void walk() {
        MistHeaps x = new MistHeaps();
        due("none to take away", x.walk(-1), 0);
        for (int i = 1; i <= 6; i++) due("WAY " + i, x.walk(i % 2 == 0 ? 0 : 7), i);
        due("there are", x.count(2), 6);
        due("none then", x.walk(-1), 0);
        due("there are none", x.count(2), 0);
        odds(x, 14, 14, 1, 1);
        due("the first again", x.walk(2), 1);
        odds(x, 14, 15, 1, 1);
    }

    private static void walkNone() {
        MistHeaps x = walks(new MistHeaps(), 2);
        for (int way : new int[] {MIN, -3, -2, 8, 9, MAX}) due("walk(" + way + ")", x.walk(way), NONE);
        due("there is still one", x.count(2), 1);
    }

    private static void walkFull() {
        MistHeaps x = walks(new MistHeaps(), 2, 2, 2, 2, 2);
        due("the sixth", x.walk(4), 6);
        due("the seventh", x.walk(4), FULL);
        due("there are", x.count(2), 6);
        odds(x, 0, 11, 1, 1);
        due("none then", x.walk(-1), 0);
        due("there is room", x.walk(4), 1);
    }

    private static void odds() {
        MistHeaps x = walks(heaps(Checks.withHill("drift 5 h=99;sight 0"), 7, 8, 9), 0);
        x.edges(cells(7));
        odds(x, 14, 8, 1, 2);
        odds(x, 14, 9, 1, 4);
        odds(x, 14, 7, 1, 4);
        odds(x, 14, 40, 1, 4);
        odds(x, 14, 50, 0, 1);
        odds(x, 14, 51, 1, 2);
        odds(x, 14, 52, 1, 4);
        odds(x, 14, 0, 0, 1);
        odds(x, 14, 35, 0, 1);
        odds(x, 0, 0, 1, 1);
        x.walk(-1);
        odds(x, 35, 35, 1, 1);
        odds(x, 7, 40, 1, 1);
    }

    private static void oddsNo() {
        MistHeaps x = heaps(new MistHeaps(), 0, 1);
        for (int cell : NO_CELLS) due("CELL " + cell, x.odds(cell, 0, 0), NO);
        for (int what : new int[] {MIN, -1, 36, 37, 39, 41, 48, 49, 52, 53, 57, 58, 100, MAX}) {
            due("what " + what, x.odds(0, what, 0), NO);
            due("what " + what + ", below", x.odds(0, what, 1), NO);
        }
        for (int part : new int[] {MIN, -1, 2, MAX}) due("part " + part, x.odds(0, 0, part), NO);
        due("no HEAP, no 50", new MistHeaps().odds(0, 50, 0), NO);
        due("the last HEAP", x.odds(0, 51, 0), 1);
    }

    private static void best() {
        MistHeaps x = new MistHeaps();
        int[] row = {1, 2, 3};
        for (int k = 0; k < 3; k++) due("WAY " + k, x.best(31, 34, 3, k), row[k]);
        due("of two, the first", x.best(14, 13, 2, 0), 0);
        due("of two, the second", x.best(14, 13, 2, 1), 5);
        due("of one", x.best(14, 13, 1, 0), 6);
    }

    private static void bestNone() {
        MistHeaps x = new MistHeaps();
        for (int cell : NO_CELLS) {
            due("from " + cell, x.best(cell, 0, 1, 0), NONE);
            due("to " + cell, x.best(0, cell, 1, 0), NONE);
            due("from " + cell + " ahead of BAD", x.best(cell, 0, 0, 0), NONE);
            due("to " + cell + " ahead of BAD", x.best(0, cell, 4, 0), NONE);
        }
        for (int k : new int[] {MIN, -1, 3, 4, MAX}) {
            due("k " + k, x.best(0, 0, 3, k), NONE);
            due("k " + k + " ahead of BAD", x.best(0, 0, 4, k), NONE);
        }
    }

    private static void bestBad() {
        MistHeaps x = new MistHeaps();
        for (int n : new int[] {MIN, -1, 0, 4, 5, MAX}) {
            for (int k = 0; k <= 2; k++) due("n " + n + ", k " + k, x.best(0, 0, n, k), BAD);
        }
        due("n 1", x.best(0, 0, 1, 0), 0);
        due("n 3", x.best(0, 0, 3, 2), 0);
    }

    private static void bestBeyondRow() {
        MistHeaps x = new MistHeaps();
        due("n 1, k 1", x.best(0, 0, 1, 1), NONE);
        due("n 1, k 2", x.best(0, 0, 1, 2), NONE);
        due("n 2, k 2", x.best(0, 0, 2, 2), NONE);
        due("n 2, k 1", x.best(0, 0, 2, 1), 0);
    }

    private static void bestOdds() {
        MistHeaps x = Checks.withHill("drift 5 h=99");
        due("above", x.bestOdds(14, 8, 1, 0), 1);
        due("below", x.bestOdds(14, 8, 1, 1), 2);
        due("above, of two", x.bestOdds(14, 2, 2, 0), 3);
        due("below, of two", x.bestOdds(14, 2, 2, 1), 8);
        due("above, of none", x.bestOdds(0, 35, 3, 0), 0);
        due("below, of none", x.bestOdds(0, 35, 3, 1), 1);
        x.edges(cells(8));
        due("from an EDGE", x.bestOdds(8, 14, 1, 0), 0);
        due("to an EDGE", x.bestOdds(14, 8, 1, 1), 2);
    }

    private static void bestOddsNo() {
        MistHeaps x = new MistHeaps();
        for (int cell : NO_CELLS) {
            due("from " + cell, x.bestOdds(cell, 0, 1, 0), NO);
            due("to " + cell, x.bestOdds(0, cell, 1, 0), NO);
        }
        for (int n : new int[] {MIN, -1, 0, 4, MAX}) due("n " + n, x.bestOdds(0, 0, n, 0), NO);
        for (int part : new int[] {MIN, -1, 2, MAX}) due("part " + part, x.bestOdds(0, 0, 1, part), NO);
    }

    private static void safe() {
        MistHeaps x = new MistHeaps();
        x.edges(cells(7, 8, 9, 13, 19, 20, 15));
        int[] row = {3, 1, 0};
        for (int k = 0; k < 3; k++) due("WAY " + k, x.safe(14, 3, k), row[k]);
        due("of one", x.safe(14, 1, 0), 3);
    }

    private static void safeNone() {
        MistHeaps x = new MistHeaps();
        for (int cell : NO_CELLS) {
            due("from " + cell, x.safe(cell, 1, 0), NONE);
            due("from " + cell + " ahead of BAD", x.safe(cell, 0, 0), NONE);
        }
        for (int k : new int[] {MIN, -1, 3, 4, MAX}) {
            due("k " + k, x.safe(0, 3, k), NONE);
            due("k " + k + " ahead of BAD", x.safe(0, 4, k), NONE);
        }
    }

    private static void safeBad() {
        MistHeaps x = new MistHeaps();
        for (int n : new int[] {MIN, -1, 0, 4, 5, MAX}) {
            for (int k = 0; k <= 2; k++) due("n " + n + ", k " + k, x.safe(0, n, k), BAD);
        }
        due("n 1", x.safe(0, 1, 0), 0);
        due("n 3", x.safe(0, 3, 2), 0);
    }

    private static void safeBeyondRow() {
        MistHeaps x = new MistHeaps();
        due("n 1, k 1", x.safe(0, 1, 1), NONE);
        due("n 1, k 2", x.safe(0, 1, 2), NONE);
        due("n 2, k 2", x.safe(0, 2, 2), NONE);
        due("n 2, k 1", x.safe(0, 2, 1), 0);
    }

    private static void line() {
        MistHeaps x = sight(2, 0, 2, 35, 4);
        due("one", x.line(0, 1), 0);
        due("two", x.line(0, 2), 0b0010);
        due("three", x.line(0, 3), 0b1010);
        due("nine", x.line(0, 9), 0b1110);
    }

    private static void lineNone() {
        MistHeaps x = heaps(new MistHeaps(), 0, 1);
        for (int heap : new int[] {MIN, -1, 2, 8, MAX}) {
            due("line(" + heap + ", 1)", x.line(heap, 1), NONE);
            due("line(" + heap + ", 0)", x.line(heap, 0), NONE);
        }
    }

    private static void lineBad() {
        MistHeaps x = heaps(new MistHeaps(), 0, 1);
        for (int n : new int[] {MIN, -1, 0, 10, 11, MAX}) due("line(0, " + n + ")", x.line(0, n), BAD);
        due("line(0, 1)", x.line(0, 1), 0);
        due("line(0, 9)", x.line(0, 9), 2);
    }

    private static void next() {
        MistHeaps x = heaps(new MistHeaps(), 0, 7, 8, 35);
        due("by 0, 1, 2", x.next(0, 1, 2), 3);
        due("by 2, 1, 0", x.next(2, 1, 0), -5);
        due("by 0, 0, 1", x.next(0, 0, 1), 21);
        due("by 3, 3, 3", x.next(3, 3, 3), 35);
        due("by 0, 1, 3", x.next(0, 1, 3), -5);
    }

    private static void nextNone() {
        MistHeaps x = heaps(new MistHeaps(), 0, 1);
        for (int heap : new int[] {MIN, -1, 2, 8, MAX}) {
            due("next(" + heap + ", 0, 0)", x.next(heap, 0, 0), NONE);
            due("next(0, " + heap + ", 0)", x.next(0, heap, 0), NONE);
            due("next(0, 0, " + heap + ")", x.next(0, 0, heap), NONE);
        }
    }

    private static void book() {
        MistHeaps x = heaps(new MistHeaps(), 0, 35);
        due("empty, to be emptied", x.book(-1), 0);
        due("one", x.book(0), 1);
        due("two", x.book(1), 2);
        due("there are", x.count(3), 2);
        due("they are there", x.looked(), 1);
        due("empty then", x.book(-1), 0);
        due("there are none", x.count(3), 0);
        due("one again", x.book(1), 1);
        due("without a HEAP", new MistHeaps().book(-1), 0);
    }

    private static void bookNone() {
        MistHeaps x = heaps(new MistHeaps(), 0, 1);
        x.book(1);
        for (int heap : new int[] {MIN, -3, -2, 2, 7, 8, MAX}) due("book(" + heap + ")", x.book(heap), NONE);
        due("there is still one", x.count(3), 1);
        due("without a HEAP", new MistHeaps().book(0), NONE);
    }

    private static void bookFull() {
        MistHeaps x = heaps(new MistHeaps(), 0, 1, 35);
        for (int i = 1; i <= 12; i++) due("HEAP " + i, x.book(i % 2), i);
        due("the thirteenth", x.book(2), FULL);
        due("there are", x.count(3), 12);
        due("all as told", x.looked(), -5);
        due("empty then", x.book(-1), 0);
        due("there is room", x.book(2), 1);
    }

    private static void lookedAt() {
        MistHeaps x = sight(1, 35, 0, 1);
        due("empty", x.looked(), -5);
        due("all can be gone", looked(x, 1, 2, 1, 2), -5);
        due("the first that cannot", looked(x, 1, 2, 0, 1), 0);
        due("from the first one on", looked(x, 0, 1, 2), 1);
    }

    private static void act() {
        MistHeaps x = ofAllKinds();
        int[][] answers = {{10, 9, 18}, {31, 29, 58}, {12, -9, -18}, {13, 9, 21}, {34, 29, 62}, {10, -4, -8}, {16, 16, 39}};
        for (int heap = 0; heap <= 6; heap++) {
            for (int act = 0; act <= 2; act++) {
                due("act(" + heap + ", " + act + ", 10)", x.act(heap, act, 10), answers[heap][act]);
            }
        }
        due("x 0", x.act(6, 2, 0), 11);
        due("x below 0", x.act(6, 2, -10), -1);
    }

    private static void noAct() {
        MistHeaps x = ofAllKinds();
        for (int heap : new int[] {MIN, -1, 7, 8, MAX}) {
            x.act(4, 2, 10);
            due("act(" + heap + ", 0, 10)", x.act(heap, 0, 10), 0);
            due("no TRACE", x.trace(0), NONE);
            due("no bodies", x.count(5), 0);
        }
        for (int act : new int[] {MIN, -1, 3, MAX}) {
            x.act(4, 2, 10);
            due("act(4, " + act + ", 10)", x.act(4, act, 10), 0);
            due("no TRACE", x.trace(0), NONE);
            due("no bodies", x.count(5), 0);
        }
        due("without a HEAP", new MistHeaps().act(0, 0, 10), 0);
    }

    private static void trace() {
        MistHeaps x = ofAllKinds();
        x.act(4, 2, 10);
        int[] bodies = {41, 3, 2, 11, 1, 11, 1};
        for (int i = 0; i < 7; i++) due("body " + i, x.trace(i), bodies[i]);
        x.act(0, 0, 10);
        due("the only one", x.trace(0), 1);
    }

    private static void traceNone() {
        MistHeaps x = ofAllKinds();
        for (int i : new int[] {MIN, -1, 0, 1, 20, MAX}) due("no act yet, " + i, x.trace(i), NONE);
        x.act(5, 1, 10);
        for (int i : new int[] {MIN, -1, 4, 5, 19, 20, MAX}) due("four bodies, " + i, x.trace(i), NONE);
    }

    private static void as() {
        MistHeaps x = ofAllKinds();
        for (int kind = 0; kind <= 6; kind++) {
            due("KIND " + kind + " as it is", x.as(kind, kind), kind + 1);
            due("KIND " + kind + " as a HEAP", x.as(kind, 0), kind + 1);
        }
        for (int kind = 4; kind <= 6; kind++) due("KIND " + kind + " as the one above", x.as(kind, kind - 3), kind + 1);
    }

    private static void asNone() {
        MistHeaps x = ofAllKinds();
        for (int heap : new int[] {MIN, -1, 7, 8, MAX}) due("as(" + heap + ", 0)", x.as(heap, 0), NONE);
        for (int k : new int[] {MIN, -1, 7, MAX}) due("as(6, " + k + ")", x.as(6, k), NONE);
    }

    private static void asOther() {
        MistHeaps x = ofAllKinds();
        int[][] others = {{0, 1}, {0, 6}, {1, 2}, {1, 4}, {2, 1}, {2, 5}, {3, 6}, {4, 2}, {4, 5}, {5, 1}, {5, 3}, {6, 1}, {6, 4}};
        for (int[] one : others) due("as(" + one[0] + ", " + one[1] + ")", x.as(one[0], one[1]), -6);
    }

    private static void image() {
        MistHeaps x = new MistHeaps();
        due("of none", x.image(), 0);
        heaps(x, 0, 1);
        due("of two", x.image(), 2);
        due("again", x.image(), 2);
        heaps(x, 2);
        due("the newest is taken", x.undo(), 2);
        heaps(x, 2, 3, 4, 5, 6, 7);
        due("of eight", x.image(), 8);
    }

    private static void undo() {
        MistHeaps x = walks(heaps(sight(2), 0, 1), 4);
        x.image();
        heaps(x, 2, 3);
        walks(x, 5);
        Checks.hill(x, "sight 5");
        due("how many", x.undo(), 2);
        due("HEAPS", x.count(0), 2);
        due("WAYS", x.count(2), 1);
        due("HILLS", x.count(1), 1);
        due("sight", x.told(2), 2);
        due("once more", x.undo(), 2);
        due("to nothing", emptied().count(0), 0);
    }

    private static MistHeaps emptied() {
        MistHeaps x = new MistHeaps();
        x.image();
        heaps(x, 0, 1);
        due("of none", x.undo(), 0);
        return x;
    }

    private static void undoState() {
        MistHeaps x = heaps(new MistHeaps(), 0, 1);
        due("none", x.undo(), STATE);
        due("HEAPS stay", x.count(0), 2);
        due("still none", x.undo(), STATE);
        x.image();
        due("now there is one", x.undo(), 2);
    }

    private static void count() {
        MistHeaps x = Checks.withHill("sight 1");
        Checks.hill(x, "sight 2");
        heaps(x, 0, 1, 2);
        walks(x, 0, 1, 2, 3);
        for (int i = 0; i < 5; i++) x.book(0);
        Checks.feed(x, "sixsix");
        x.act(1, 0, 0);
        int[] counts = {3, 2, 4, 5, 6, 1};
        for (int what = 0; what <= 5; what++) due("count(" + what + ")", x.count(what), counts[what]);
    }

    private static void countNone() {
        for (int what : new int[] {MIN, -1, 6, 7, MAX}) due("count(" + what + ")", ofAllKinds().count(what), NONE);
    }
}
