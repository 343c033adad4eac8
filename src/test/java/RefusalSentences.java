import java.util.ArrayList;
import java.util.List;
import java.util.function.ToLongFunction;

/** The terms of refusals, and that neither they nor questions change anything. */
final class RefusalSentences extends Given {
    /** One call, told by its name. */
    private record Call(String name, ToLongFunction<MistHeaps> call, long due) {
    }

    static void tell(Sentences to) {
        kinds(to);
        to.say("They change nothing;", RefusalSentences::refusalsChangeNothing,
            "if (sign < 0 || sign > 127) return BAD;", "if (sign < 0 || sign > 127) {\n            scene.tapeSize = 0;\n            return BAD;\n        }",
            "if (scene.tapeSize >= MOST_SIGNS) return FULL;", "if (scene.tapeSize >= MOST_SIGNS) {\n            scene.tape[99] = sign;\n            return FULL;\n        }",
            "if (scene.hills >= MOST_HILLS) return FULL;", "if (scene.hills >= MOST_HILLS) {\n            scene.tapeSize = 0;\n            return FULL;\n        }",
            "if ((cells & ~ALL_CELLS) != 0) return BAD;", "if ((cells & ~ALL_CELLS) != 0) {\n            scene.edges = cells & ALL_CELLS;\n            return BAD;\n        }",
            "if (n < 0 || n > 9) return BAD;\n        int was", "if (n < 0 || n > 9) {\n            scene.mist = 9;\n            return BAD;\n        }\n        int was",
            "if (scene.isTaken(cell)) return STATE;", "if (scene.isTaken(cell)) {\n            scene.heapCount--;\n            return STATE;\n        }",
            "if (scene.heapCount >= MOST_HEAPS) return FULL;", "if (scene.heapCount >= MOST_HEAPS) {\n            scene.heapCount--;\n            return FULL;\n        }",
            "if (way < 0 || way >= WAYS) return NONE;", "if (way < 0 || way >= WAYS) {\n            scene.walkSize = 0;\n            return NONE;\n        }",
            "if (scene.walkSize >= MOST_WALKED) return FULL;", "if (scene.walkSize >= MOST_WALKED) {\n            scene.walk[5] = way;\n            return FULL;\n        }",
            "if (scene.heapAt(heap) == null) return NONE;", "if (scene.heapAt(heap) == null) {\n            scene.bookSize = 0;\n            return NONE;\n        }",
            "if (scene.bookSize >= MOST_BOOKED) return FULL;", "if (scene.bookSize >= MOST_BOOKED) {\n            scene.book[11] = heap;\n            return FULL;\n        }",
            "if (!isKept) return STATE;", "if (!isKept) {\n            isKept = true;\n            return STATE;\n        }");
        to.say("what is asked changes nothing.", RefusalSentences::questionsChangeNothing,
            "goings.link(scene, snow);\n            if", "scene.snow = snow;\n            goings.link(scene, snow);\n            if",
            "goings.join(scene, cell);\n        return", "heap(0, 0, cell);\n        return",
            "return scene.book[i];", "{\n                scene.bookSize = i;\n                return scene.book[i];\n            }",
            "long times = chances.walked(scene, cell, asked);", "long times = chances.walked(scene, cell, asked);\n        scene.walk[0] = 0;",
            "chances.search(scene, cell, 1L << other, n);\n        return chances.foundWay", "chances.search(scene, cell, 1L << other, n);\n        scene.walkSize = 0;\n        return chances.foundWay",
            "? bodies.get(i) : NONE", "? bodies.remove(i) : NONE",
            "case 4: return scene.tapeSize;", "case 4: return scene.tapeSize--;",
            "case 2: return scene.hill.sight;", "case 2: return scene.hill.sight--;");
        to.say("The constants: NO = Long.MIN_VALUE: There is no such number.", RefusalSentences::noSuchNumber,
            "NO = Long.MIN_VALUE;", "NO = Long.MIN_VALUE + 1;",
            "NO = Long.MIN_VALUE;", "NO = Integer.MIN_VALUE;");
    }

    private static void kinds(Sentences to) {
        to.say("REFUSALS, of several the first one told:", RefusalSentences::firstOneTold,
            "if (sign < 0 || sign > 127) return BAD;\n        if (scene.tapeSize >= MOST_SIGNS) return FULL;",
            "if (scene.tapeSize >= MOST_SIGNS) return FULL;\n        if (sign < 0 || sign > 127) return BAD;",
            "if (what < 0 || what > 1) return NONE;\n        if (n < 0 || n > 9) return BAD;",
            "if (n < 0 || n > 9) return BAD;\n        if (what < 0 || what > 1) return NONE;",
            "if (v < 0 || v > 9) return BAD;\n        if (scene.isTaken(cell)) return STATE;",
            "if (scene.isTaken(cell)) return STATE;\n        if (v < 0 || v > 9) return BAD;",
            "if (scene.isTaken(cell)) return STATE;\n        if (scene.heapCount >= MOST_HEAPS) return FULL;",
            "if (scene.heapCount >= MOST_HEAPS) return FULL;\n        if (scene.isTaken(cell)) return STATE;",
            "if (kind < 0 || kind >= KINDS || !isCell(cell)) return NONE;\n        if (v < 0 || v > 9) return BAD;",
            "if (v < 0 || v > 9) return BAD;\n        if (kind < 0 || kind >= KINDS || !isCell(cell)) return NONE;",
            "if (way < 0 || way >= WAYS) return NONE;\n        if (scene.walkSize >= MOST_WALKED) return FULL;",
            "if (scene.walkSize >= MOST_WALKED) return FULL;\n        if (way < 0 || way >= WAYS) return NONE;",
            "if (from == null) return NONE;\n        if (n < 1 || n > 9) return BAD;",
            "if (n < 1 || n > 9) return BAD;\n        if (from == null) return NONE;",
            "if (scene.heapAt(heap) == null) return NONE;\n        if (scene.bookSize >= MOST_BOOKED) return FULL;",
            "if (scene.bookSize >= MOST_BOOKED) return FULL;\n        if (scene.heapAt(heap) == null) return NONE;");
        to.say("NONE there is no such CELL, HEAP, KIND, WAY, what, part, i;", RefusalSentences::none,
            "NONE = -1, BAD = -2", "NONE = -2, BAD = -1",
            "return cell >= 0 && cell < CELLS;", "return cell < CELLS;",
            "return cell >= 0 && cell < CELLS;", "return cell >= 0;",
            "number >= 0 && number < heapCount ?", "number < heapCount ?",
            "number >= 0 && number < heapCount ?", "number >= 0 ?",
            "if (kind < 0 || kind >= KINDS ||", "if (kind >= KINDS ||",
            "if (kind < 0 || kind >= KINDS ||", "if (kind < 0 ||",
            "if (way < 0 || way >= WAYS) return NONE;", "if (way >= WAYS) return NONE;",
            "if (way < 0 || way >= WAYS) return NONE;", "if (way < 0) return NONE;",
            "if (what < 0 || what > 1) return NONE;", "if (what < 0 || what > 2) return NONE;",
            "if (what < 0 || what > 1) return NONE;", "if (what < 0) return NONE;",
            "|| what < 0 || what > 1) return NONE;", ") return NONE;",
            "return i >= 0 && i < bodies.size() ?", "return i < bodies.size() ?",
            "return i >= 0 && i < bodies.size() ?", "return i >= 0 ?",
            "if (taken == null || k < 0 || k >= KINDS) return NONE;", "if (taken == null) return NONE;");
        to.say("BAD a number is not as told;", RefusalSentences::bad,
            "NONE = -1, BAD = -2", "NONE = -2, BAD = -1",
            "if (sign < 0 || sign > 127) return BAD;", "if (sign > 127) return BAD;",
            "if (sign < 0 || sign > 127) return BAD;", "if (sign < 0) return BAD;",
            "(cells & ~ALL_CELLS) != 0", "cells > ALL_CELLS",
            "(cells & ~ALL_CELLS) != 0", "cells < 0",
            "if (v < 0 || v > 9) return BAD;", "if (v < 0) return BAD;",
            "if (v < 0 || v > 9) return BAD;", "if (v > 9) return BAD;",
            "if (n < 0 || n > 9) return BAD;", "if (n < 0) return BAD;",
            "if (n < 0 || n > 9) return BAD;", "if (n > 9) return BAD;",
            "if (n < 1 || n > 9) return BAD;", "if (n < 1) return BAD;",
            "if (n < 1 || n > 9) return BAD;", "if (n > 9) return BAD;");
        to.say("STATE as told;", RefusalSentences::state,
            "STATE = -3, FULL = -4", "STATE = -4, FULL = -3",
            "if (scene.isTaken(cell)) return STATE;", "if (scene.isTaken(cell)) return BAD;",
            "if (!isKept) return STATE;", "");
        to.say("FULL.", RefusalSentences::full,
            "STATE = -3, FULL = -4", "STATE = -4, FULL = -3",
            "if (scene.tapeSize >= MOST_SIGNS) return FULL;", "if (scene.tapeSize >= MOST_SIGNS) scene.tapeSize = 0;",
            "if (scene.hills >= MOST_HILLS) return FULL;", "",
            "if (scene.heapCount >= MOST_HEAPS) return FULL;", "if (scene.heapCount >= MOST_HEAPS) return BAD;",
            "if (scene.walkSize >= MOST_WALKED) return FULL;", "if (scene.walkSize >= MOST_WALKED) scene.walkSize = 0;",
            "if (scene.bookSize >= MOST_BOOKED) return FULL;", "if (scene.bookSize >= MOST_BOOKED) scene.bookSize = 0;");
    }

    /** Three heaps, two hills, a tape that is a hill, a walk, a book and an image of less. */
    private static MistHeaps few() {
        MistHeaps x = Checks.withHill("sight 2;drift 3 c=0");
        heaps(x, 0, 7);
        walks(x, 4);
        Checks.feed(x, "sight 9");
        x.image();
        x.hill();
        Checks.hill(x, "sight 3;see 1 k=5;drift 1 r>1");
        x.heap(5, 4, 14);
        x.edges(cells(20, 35));
        x.set(0, 1);
        x.set(1, 3);
        walks(x, 2, 3);
        for (int heap : new int[] {0, 1, 2, 0}) x.book(heap);
        Checks.feed(x, "hide 1 h=0");
        x.act(2, 2, 5);
        return x;
    }

    /** All that can be full is full. */
    private static MistHeaps allFull() {
        MistHeaps x = few();
        Checks.hill(x, ";sight 3;drift 2 r=1");
        Checks.hill(x, "sight 2;see 1 h>4;drift 4 c>2");
        for (int kind = 0; kind < 5; kind++) x.heap(kind, 9 - kind, 21 + 3 * kind - kind % 2);
        walks(x, 1, 0, 5);
        for (int heap = 0; heap < 8; heap++) x.book(heap);
        x.image();
        x.set(1, 5);
        Checks.feed(x, "see 1 h=1" + "|h=1".repeat(22) + "|h=");
        x.act(6, 2, 5);
        return x;
    }

    /** The tape and the book alone are full, so that what is in them can still be known. */
    private static MistHeaps tapeAndBookFull() {
        MistHeaps x = heaps(new MistHeaps(), 0, 1, 35);
        for (int i = 0; i < 12; i++) x.book(i % 2);
        Checks.feed(x, "see 10 h=10" + "|h=10".repeat(17) + "|h=7");
        return x;
    }

    private static MistHeaps in(int state) {
        switch (state) {
            case 0: return new MistHeaps();
            case 1: return few();
            case 2: return allFull();
            default: return tapeAndBookFull();
        }
    }

    /** What can be known of it all, within the 512 calls of an object: also what the tape and the image hold. */
    private static List<Long> known(MistHeaps x) {
        List<Long> known = new ArrayList<>();
        ask(x, known);
        if (x.count(4) < 100) known.add((long) x.feed('1'));
        known.add((long) x.hill());
        known.add((long) x.told(2));
        known.add((long) x.undo());
        ask(x, known);
        known.add((long) x.hill());
        known.add((long) x.told(2));
        return known;
    }

    private static void ask(MistHeaps x, List<Long> known) {
        for (int what = 0; what <= 5; what++) known.add((long) x.count(what));
        for (int what = 0; what <= 3; what++) known.add((long) x.told(what));
        for (int i = 0; i <= 7; i++) known.add((long) x.trace(i));
        for (int heap = 0; heap < 8; heap++) {
            known.add((long) x.of(heap, 0));
            known.add((long) x.of(heap, 2));
            known.add((long) x.of(heap, 3));
            known.add((long) x.steps(0, heap));
        }
        known.add((long) x.of(7, 1));
        for (int cell : new int[] {0, 8, 14, 35}) {
            known.add((long) x.drift(cell));
            for (int what : new int[] {cell, 14, 20, 40}) known.add(x.odds(cell, what, 0) * 31 + x.odds(cell, what, 1));
        }
        known.add(x.where(1));
        known.add((long) x.looked());
        known.add((long) x.bears(0, 2));
    }

    private static void changeNothing(int state, List<Call> calls) {
        List<Long> before = known(in(state));
        for (Call one : calls) {
            MistHeaps x = in(state);
            String name = "state " + state + ", " + one.name();
            long answer = one.call().applyAsLong(x);
            if (one.due() != 0) due(name, answer, one.due());
            due(name + " once more", one.call().applyAsLong(x), answer);
            due(name + " changes nothing", known(x).equals(before) ? 1 : 0, 1);
        }
    }

    private static void refusalsChangeNothing() {
        for (int state = 0; state <= 2; state++) {
            List<Call> calls = refused();
            if (state > 0) calls.addAll(refusedWithHeaps());
            if (state == 0) calls.add(new Call("undo()", x -> x.undo(), STATE));
            if (state == 2) calls.addAll(refusedWhenFull());
            changeNothing(state, calls);
        }
        changeNothing(3, List.of(
            new Call("feed(';')", x -> x.feed(';'), FULL), new Call("feed('8')", x -> x.feed('8'), FULL),
            new Call("book(0)", x -> x.book(0), FULL), new Call("book(2)", x -> x.book(2), FULL)));
    }

    private static List<Call> refused() {
        return new ArrayList<>(List.of(
            new Call("feed(-1)", x -> x.feed(-1), BAD), new Call("feed(128)", x -> x.feed(128), BAD),
            new Call("edges(-1)", x -> x.edges(-1), BAD), new Call("edges(1 << 36)", x -> x.edges(1L << 36), BAD),
            new Call("set(2, 0)", x -> x.set(2, 0), NONE), new Call("set(-1, 0)", x -> x.set(-1, 0), NONE),
            new Call("set(0, 10)", x -> x.set(0, 10), BAD), new Call("set(1, -1)", x -> x.set(1, -1), BAD),
            new Call("told(4)", x -> x.told(4), NONE), new Call("told(-1)", x -> x.told(-1), NONE),
            new Call("heap(7, 0, 1)", x -> x.heap(7, 0, 1), NONE), new Call("heap(-1, 0, 1)", x -> x.heap(-1, 0, 1), NONE),
            new Call("heap(0, 0, 36)", x -> x.heap(0, 0, 36), NONE), new Call("heap(0, 0, -1)", x -> x.heap(0, 0, -1), NONE),
            new Call("heap(0, 10, 1)", x -> x.heap(0, 10, 1), BAD), new Call("heap(0, -1, 1)", x -> x.heap(0, -1, 1), BAD),
            new Call("of(8, 0)", x -> x.of(8, 0), NONE), new Call("of(-1, 0)", x -> x.of(-1, 0), NONE),
            new Call("sees(36)", x -> x.sees(36), NONE), new Call("sees(-1)", x -> x.sees(-1), NONE),
            new Call("where(256)", x -> x.where(256), NO), new Call("where(-1)", x -> x.where(-1), NO),
            new Call("steps(8, 0)", x -> x.steps(8, 0), NONE), new Call("via(0, 8)", x -> x.via(0, 8), NONE),
            new Call("cuts(-1, 0)", x -> x.cuts(-1, 0), NONE), new Call("bears(8, 8)", x -> x.bears(8, 8), NONE),
            new Call("build(0, 8, 0)", x -> x.build(0, 8, 0), NONE), new Call("drift(36)", x -> x.drift(36), NONE),
            new Call("walk(8)", x -> x.walk(8), NONE), new Call("walk(-2)", x -> x.walk(-2), NONE),
            new Call("odds(36, 0, 0)", x -> x.odds(36, 0, 0), NO), new Call("odds(0, 36, 0)", x -> x.odds(0, 36, 0), NO),
            new Call("odds(0, 58, 0)", x -> x.odds(0, 58, 0), NO), new Call("odds(0, 0, 2)", x -> x.odds(0, 0, 2), NO),
            new Call("best(36, 0, 1, 0)", x -> x.best(36, 0, 1, 0), NONE), new Call("best(0, 0, 4, 0)", x -> x.best(0, 0, 4, 0), BAD),
            new Call("best(0, 0, 1, 1)", x -> x.best(0, 0, 1, 1), NONE), new Call("bestOdds(0, 0, 0, 0)", x -> x.bestOdds(0, 0, 0, 0), NO),
            new Call("safe(-1, 1, 0)", x -> x.safe(-1, 1, 0), NONE), new Call("safe(0, 0, 0)", x -> x.safe(0, 0, 0), BAD),
            new Call("safe(0, 2, 2)", x -> x.safe(0, 2, 2), NONE), new Call("line(8, 1)", x -> x.line(8, 1), NONE),
            new Call("next(0, 0, 8)", x -> x.next(0, 0, 8), NONE), new Call("book(8)", x -> x.book(8), NONE),
            new Call("book(-2)", x -> x.book(-2), NONE), new Call("trace(-1)", x -> x.trace(-1), NONE),
            new Call("trace(20)", x -> x.trace(20), NONE), new Call("as(8, 0)", x -> x.as(8, 0), NONE),
            new Call("count(6)", x -> x.count(6), NONE), new Call("count(-1)", x -> x.count(-1), NONE)));
    }

    private static List<Call> refusedWithHeaps() {
        return List.of(
            new Call("heap(1, 2, 14)", x -> x.heap(1, 2, 14), STATE), new Call("heap(1, 2, 0)", x -> x.heap(1, 2, 0), STATE),
            new Call("of(0, 4)", x -> x.of(0, 4), NONE), new Call("of(0, -1)", x -> x.of(0, -1), NONE),
            new Call("build(0, 1, 2)", x -> x.build(0, 1, 2), NONE), new Call("line(0, 0)", x -> x.line(0, 0), BAD),
            new Call("line(0, 10)", x -> x.line(0, 10), BAD), new Call("as(0, 7)", x -> x.as(0, 7), NONE),
            new Call("as(0, -1)", x -> x.as(0, -1), NONE));
    }

    private static List<Call> refusedWhenFull() {
        return List.of(
            new Call("feed(';')", x -> x.feed(';'), FULL), new Call("feed('0')", x -> x.feed('0'), FULL),
            new Call("hill()", x -> x.hill(), FULL), new Call("heap(0, 0, 35)", x -> x.heap(0, 0, 35), FULL),
            new Call("walk(0)", x -> x.walk(0), FULL), new Call("walk(7)", x -> x.walk(7), FULL),
            new Call("book(0)", x -> x.book(0), FULL), new Call("book(7)", x -> x.book(7), FULL));
    }

    private static List<Call> questions() {
        return List.of(
            new Call("told(0)", x -> x.told(0), 0), new Call("told(2)", x -> x.told(2), 0), new Call("told(3)", x -> x.told(3), 0),
            new Call("of(2, 1)", x -> x.of(2, 1), 0), new Call("of(2, 3)", x -> x.of(2, 3), 0),
            new Call("sees(8)", x -> x.sees(8), 0), new Call("where(3)", x -> x.where(3), 0),
            new Call("steps(1, 0)", x -> x.steps(1, 0), 0), new Call("via(1, 0)", x -> x.via(1, 0), 0),
            new Call("cuts(1, 0)", x -> x.cuts(1, 0), 0), new Call("bears(0, 1)", x -> x.bears(0, 1), 0),
            new Call("bears(1, 2)", x -> x.bears(1, 2), 0), new Call("build(0, 2, 0)", x -> x.build(0, 2, 0), 0),
            new Call("build(2, 0, 1)", x -> x.build(2, 0, 1), 0), new Call("build(0, 1, 1)", x -> x.build(0, 1, 1), 0),
            new Call("drift(3)", x -> x.drift(3), 0), new Call("odds(14, 8, 0)", x -> x.odds(14, 8, 0), 0),
            new Call("odds(14, 40, 1)", x -> x.odds(14, 40, 1), 0), new Call("odds(14, 51, 1)", x -> x.odds(14, 51, 1), 0),
            new Call("best(14, 28, 3, 1)", x -> x.best(14, 28, 3, 1), 0), new Call("bestOdds(14, 28, 3, 1)", x -> x.bestOdds(14, 28, 3, 1), 0),
            new Call("safe(14, 3, 2)", x -> x.safe(14, 3, 2), 0), new Call("line(0, 3)", x -> x.line(0, 3), 0),
            new Call("next(0, 1, 2)", x -> x.next(0, 1, 2), 0), new Call("looked()", x -> x.looked(), 0),
            new Call("trace(0)", x -> x.trace(0), 0), new Call("trace(2)", x -> x.trace(2), 0),
            new Call("as(2, 2)", x -> x.as(2, 2), 0), new Call("as(2, 1)", x -> x.as(2, 1), 0),
            new Call("count(3)", x -> x.count(3), 0), new Call("count(4)", x -> x.count(4), 0), new Call("count(5)", x -> x.count(5), 0));
    }

    private static void questionsChangeNothing() {
        for (int state = 0; state <= 3; state++) changeNothing(state, questions());
        MistHeaps gap = sight(1, 0, 2);
        due("a gap", gap.build(0, 1, 1), 2);
        due("it is still there", gap.steps(0, 1), NOWHERE);
        due("nothing was built", gap.count(0), 2);
    }

    private static void firstOneTold() {
        MistHeaps x = allFull();
        due("feed: BAD, then FULL", x.feed(128), BAD);
        due("set: NONE, then BAD", x.set(2, 10), NONE);
        due("heap: NONE of the KIND, then BAD", x.heap(7, 10, 1), NONE);
        due("heap: NONE of the CELL, then BAD", x.heap(0, 10, 36), NONE);
        due("heap: NONE, then FULL", x.heap(0, 0, 36), NONE);
        due("heap: BAD, then STATE", x.heap(0, 10, 0), BAD);
        due("heap: BAD, then FULL", x.heap(0, 10, 35), BAD);
        due("heap: STATE, then FULL", x.heap(0, 0, 0), STATE);
        due("walk: NONE, then FULL", x.walk(8), NONE);
        due("build: NONE, then -5", x.build(0, 1, 2), NONE);
        due("best: NONE, then BAD", x.best(0, 36, 4, 0), NONE);
        due("best: NONE of k, then BAD", x.best(0, 0, 4, 3), NONE);
        due("best: BAD, then NONE", x.best(0, 0, 0, 0), BAD);
        due("safe: NONE of k, then BAD", x.safe(0, 0, 3), NONE);
        due("safe: BAD, then NONE", x.safe(0, 0, 2), BAD);
        due("line: NONE, then BAD", x.line(8, 0), NONE);
        due("book: NONE, then FULL", x.book(8), NONE);
    }

    private static void none() {
        due("NONE", constant("NONE"), -1);
        MistHeaps x = few();
        for (int cell : NO_CELLS) {
            due("heap(0, 0, " + cell + ")", x.heap(0, 0, cell), NONE);
            due("sees(" + cell + ")", x.sees(cell), NONE);
            due("drift(" + cell + ")", x.drift(cell), NONE);
            due("best(" + cell + ", 0, 1, 0)", x.best(cell, 0, 1, 0), NONE);
            due("best(0, " + cell + ", 1, 0)", x.best(0, cell, 1, 0), NONE);
            due("safe(" + cell + ", 1, 0)", x.safe(cell, 1, 0), NONE);
        }
        for (int heap : new int[] {MIN, -2, -1, 3, 7, 8, MAX}) noHeap(x, heap);
        for (int kind : new int[] {MIN, -1, 7, MAX}) {
            due("heap(" + kind + ", 0, 1)", x.heap(kind, 0, 1), NONE);
            due("as(0, " + kind + ")", x.as(0, kind), NONE);
        }
        for (int way : new int[] {MIN, -2, 8, MAX}) due("walk(" + way + ")", x.walk(way), NONE);
        for (int what : new int[] {MIN, -1, 6, MAX}) {
            due("set(" + what + ", 0)", x.set(what, 0), NONE);
            due("told(" + what + ")", x.told(what), NONE);
            due("of(0, " + what + ")", x.of(0, what), NONE);
            due("build(0, 1, " + what + ")", x.build(0, 1, what), NONE);
            due("count(" + what + ")", x.count(what), NONE);
        }
        due("set(2, 0)", x.set(2, 0), NONE);
        due("told(4)", x.told(4), NONE);
        due("of(0, 4)", x.of(0, 4), NONE);
        due("build(0, 1, 2)", x.build(0, 1, 2), NONE);
        for (int part : new int[] {MIN, -1, 2, MAX}) due("odds(0, 0, " + part + ")", x.odds(0, 0, part), NO);
        for (int i : new int[] {MIN, -1, 5, 20, MAX}) due("trace(" + i + ")", x.trace(i), NONE);
    }

    private static void noHeap(MistHeaps x, int heap) {
        String name = " of " + heap;
        due("of" + name, x.of(heap, 0), NONE);
        due("steps" + name, x.steps(heap, 0), NONE);
        due("steps to" + name, x.steps(0, heap), NONE);
        due("via" + name, x.via(heap, 0), NONE);
        due("via to" + name, x.via(0, heap), NONE);
        due("cuts" + name, x.cuts(heap, 0), NONE);
        due("cuts to" + name, x.cuts(0, heap), NONE);
        due("bears" + name, x.bears(heap, 0), NONE);
        due("bears to" + name, x.bears(0, heap), NONE);
        due("build" + name, x.build(heap, 0, 0), NONE);
        due("build to" + name, x.build(0, heap, 0), NONE);
        due("line" + name, x.line(heap, 1), NONE);
        due("next" + name, x.next(heap, 0, 0), NONE);
        due("next by" + name, x.next(0, heap, 0), NONE);
        due("next from" + name, x.next(0, 0, heap), NONE);
        if (heap != -1) due("book" + name, x.book(heap), NONE);
        due("as" + name, x.as(heap, 0), NONE);
    }

    private static void bad() {
        due("BAD", constant("BAD"), -2);
        MistHeaps x = few();
        for (int sign : new int[] {MIN, -1, 128, 256, MAX}) due("feed(" + sign + ")", x.feed(sign), BAD);
        for (long cells : new long[] {NO, -1, 1L << 36, 1L << 62, Long.MAX_VALUE}) due("edges(" + cells + ")", x.edges(cells), BAD);
        for (int n : new int[] {MIN, -1, 10, MAX}) {
            due("set(0, " + n + ")", x.set(0, n), BAD);
            due("set(1, " + n + ")", x.set(1, n), BAD);
            due("heap(0, " + n + ", 1)", x.heap(0, n, 1), BAD);
            due("line(0, " + n + ")", x.line(0, n), BAD);
            due("best(0, 0, " + n + ", 0)", x.best(0, 0, n, 0), BAD);
            due("safe(0, " + n + ", 0)", x.safe(0, n, 0), BAD);
        }
        due("line(0, 0)", x.line(0, 0), BAD);
        due("best(0, 0, 0, 0)", x.best(0, 0, 0, 0), BAD);
        due("best(0, 0, 4, 0)", x.best(0, 0, 4, 0), BAD);
        due("safe(0, 0, 0)", x.safe(0, 0, 0), BAD);
        due("safe(0, 4, 0)", x.safe(0, 4, 0), BAD);
    }

    private static void state() {
        due("STATE", constant("STATE"), -3);
        MistHeaps x = heaps(new MistHeaps(), 7);
        due("another one has that CELL", x.heap(3, 3, 7), STATE);
        due("there is no image", x.undo(), STATE);
    }

    private static void full() {
        due("FULL", constant("FULL"), -4);
        MistHeaps x = allFull();
        due("signs", x.count(4), 100);
        due("feed", x.feed(';'), FULL);
        due("HILLS", x.count(1), 5);
        due("hill", x.hill(), FULL);
        due("HEAPS", x.count(0), 8);
        due("heap", x.heap(0, 0, 35), FULL);
        due("WAYS", x.count(2), 6);
        due("walk", x.walk(0), FULL);
        due("BOOK", x.count(3), 12);
        due("book", x.book(0), FULL);
    }

    private static void noSuchNumber() {
        due("NO", constant("NO"), Long.MIN_VALUE);
        due("where", new MistHeaps().where(1), Long.MIN_VALUE);
        due("odds", new MistHeaps().odds(0, 36, 0), Long.MIN_VALUE);
        due("bestOdds", new MistHeaps().bestOdds(0, 0, 4, 0), Long.MIN_VALUE);
    }

    /** Read from the class, as a name alone would be its number from when the test was compiled. */
    private static long constant(String name) {
        try {
            return MistHeaps.class.getField(name).getLong(null);
        } catch (ReflectiveOperationException thrown) {
            throw new IllegalStateException(thrown);
        }
    }
}
