/** The terms of acts and their bodies, of the trace and of the image. */
final class ActSentences extends Given {
    private static final String LEFT = "int looked = super.doLooks(x - 1, bodies);\n            return looked + doSees(2, bodies);";

    static void tell(Sentences to) {
        to.say("ACTS of a HEAP with x (ints, wrapping):", ActSentences::wrapping,
            "super.doSees(x * 3, bodies)", "super.doSees((int) Math.min(Integer.MAX_VALUE, x * 3L), bodies)",
            "return x + number;", "return (int) Math.min(Integer.MAX_VALUE, (long) x + number);",
            "return doSees(x, bodies) - v;", "return (int) Math.max(Integer.MIN_VALUE, (long) doSees(x, bodies) - v);",
            "return doGoes(x, bodies) * 2;", "return (int) Math.min(Integer.MAX_VALUE, doGoes(x, bodies) * 2L);",
            "return -super.doGoes(x, bodies);", "return (int) Math.min(Integer.MAX_VALUE, -(long) super.doGoes(x, bodies));");
        to.say("sees, goes, looks; i its number.", ActSentences::sorts,
            "return x + number;", "return x + kind;",
            "return x + number;", "return x + number + 1;",
            "case 1: return actor.doGoes(x, bodies);", "case 1: return actor.doLooks(x, bodies);");
        bodies(to);
        calls(to);
        to.say("THE IMAGE: all that there is (but THE IMAGE and THE TRACE).", ActSentences::theImage,
            "System.arraycopy(other.tape, 0, tape, 0, MOST_SIGNS);", "",
            "tapeSize = other.tapeSize;", "",
            "hill = other.hill;", "",
            "hills = other.hills;", "",
            "edges = other.edges;", "",
            "mist = other.mist;", "",
            "snow = other.snow;", "",
            "heapCount = other.heapCount;", "",
            "System.arraycopy(other.walk, 0, walk, 0, MOST_WALKED);", "",
            "walkSize = other.walkSize;", "",
            "System.arraycopy(other.book, 0, book, 0, MOST_BOOKED);", "",
            "bookSize = other.bookSize;", "",
            "scene.copyFrom(kept);", "scene.copyFrom(kept);\n        bodies.clear();",
            "scene.copyFrom(kept);", "scene.copyFrom(kept);\n        isKept = false;");
    }

    private static void bodies(Sentences to) {
        to.say("BODIES: HEAP: 1 sees: x + i.", () -> act(ofAllKinds(), 0, 0, 10, 10, 1),
            "return x + number;", "return x + v;",
            "begin(1, bodies);", "begin(10, bodies);");
        to.say("2 goes: sees(x) - v.", ActSentences::heapGoes,
            "return doSees(x, bodies) - v;", "return doSees(x, bodies) + v;",
            "return doSees(x, bodies) - v;", "return doSees(x - v, bodies);",
            "begin(2, bodies);", "begin(12, bodies);");
        to.say("3 looks: goes(x) * 2.", ActSentences::heapLooks,
            "return doGoes(x, bodies) * 2;", "return doGoes(x * 2, bodies);",
            "return doGoes(x, bodies) * 2;", "return doSees(x, bodies) * 2;",
            "begin(3, bodies);", "begin(13, bodies);");
        to.say("HIGH: 11 sees: super.sees(x * 3).", ActSentences::highSees,
            "super.doSees(x * 3, bodies)", "super.doSees(x, bodies) * 3",
            "super.doSees(x * 3, bodies)", "super.doSees(x * 2, bodies)",
            "begin(11, bodies);", "begin(1, bodies);");
        to.say("LOW: 21 goes: -super.goes(x).", ActSentences::lowGoes,
            "return -super.doGoes(x, bodies);", "return super.doGoes(-x, bodies);",
            "return -super.doGoes(x, bodies);", "return ~super.doGoes(x, bodies);",
            "begin(21, bodies);", "begin(2, bodies);");
        to.say("FALSE: 31 looks: super.looks(x) ^ 7.", ActSentences::falseLooks,
            "super.doLooks(x, bodies) ^ 7", "super.doLooks(x ^ 7, bodies)",
            "super.doLooks(x, bodies) ^ 7", "super.doLooks(x, bodies) | 7",
            "begin(31, bodies);", "begin(3, bodies);");
        to.say("TURNING: 41 looks: super.looks(x - 1) + sees(2).", ActSentences::turningLooks,
            "super.doLooks(x - 1, bodies)", "super.doLooks(x, bodies) - 1",
            "looked + doSees(2, bodies)", "looked + doSees(x, bodies)",
            "looked + doSees(2, bodies)", "looked - doSees(2, bodies)",
            "begin(41, bodies);", "begin(3, bodies);");
        to.say("SNOWED: 51 sees: super.sees(x) ^ i.", ActSentences::snowedSees,
            "super.doSees(x, bodies) ^ number", "super.doSees(x ^ number, bodies)",
            "super.doSees(x, bodies) ^ number", "super.doSees(x, bodies) ^ v",
            "begin(51, bodies);", "begin(1, bodies);");
        to.say("OLD: 61 goes: super.goes(x) + v.", ActSentences::oldGoes,
            "super.doGoes(x, bodies) + v", "super.doGoes(x, bodies) ^ v",
            "super.doGoes(x, bodies) + v", "super.doGoes(x, bodies) - v",
            "begin(61, bodies);", "begin(2, bodies);");
    }

    private static void calls(Sentences to) {
        to.say("sees(..) and so on: the body of its KIND, or, if that has none, of the next KIND above that has one;",
            ActSentences::nextKindAbove,
            "return doSees(x, bodies) - v;", "begin(1, bodies);\n            return x + number - v;",
            "return doGoes(x, bodies) * 2;", "begin(2, bodies);\n            return (doSees(x, bodies) - v) * 2;");
        to.say("super.sees(..): so from the KIND above the body's on;", ActSentences::fromTheKindAbove,
            "int looked = super.doLooks(x - 1, bodies);", "int looked = doGoes(x - 1, bodies) * 2;",
            "return super.doGoes(x, bodies) + v;", "return doSees(x, bodies) - v + v;",
            "return super.doSees(x, bodies) ^ number;", "return (x + number) ^ number;");
        to.say("what stands in a body is done from the left on.", ActSentences::fromTheLeftOn,
            LEFT, "int seen = doSees(2, bodies);\n            return super.doLooks(x - 1, bodies) + seen;");
        to.say("THE TRACE: the numbers of the bodies that ran in the latest act(), as they began;", ActSentences::theTrace,
            "bodies.clear();\n        Heap actor", "Heap actor",
            "bodies.add(body);", "bodies.add(0, body);",
            "bodies.add(body);", "if (body != 1) bodies.add(body);");
        to.say("the first 20 are kept.", ActSentences::firstTwenty,
            "MOST_TRACED = 20", "MOST_TRACED = 6",
            "if (bodies.size() < MOST_TRACED) bodies.add(body);", "if (bodies.size() == 6) bodies.remove(0);\n            bodies.add(body);");
    }

    private static void wrapping() {
        MistHeaps x = ofAllKinds();
        due("HIGH sees the greatest", x.act(1, 0, MAX), MAX - 2 + 1);
        due("HIGH sees the least", x.act(1, 0, MIN), MIN + 1);
        due("LOW sees the greatest", x.act(2, 0, MAX), MIN + 1);
        due("HEAP goes with the least", x.act(0, 1, MIN), MAX);
        due("HEAP looks with the greatest", x.act(0, 2, MAX), -4);
        due("HEAP looks with half of it", x.act(0, 2, 1 << 30), MAX - 1);
        due("LOW goes with what becomes the least", x.act(2, 1, MIN + 1), MIN);
        due("TURNING looks with the least", x.act(4, 2, MIN), 2);
    }

    private static void sorts() {
        MistHeaps x = heaps(new MistHeaps(), 0, 1, 2);
        x.heap(0, 4, 3);
        act(x, 3, 0, 100, 103, 1);
        act(x, 3, 1, 100, 99, 2, 1);
        act(x, 3, 2, 100, 198, 3, 2, 1);
        act(x, 0, 0, 100, 100, 1);
    }

    private static void heapGoes() {
        MistHeaps x = new MistHeaps();
        x.heap(0, 9, 0);
        x.heap(1, 9, 1);
        act(x, 0, 1, 10, 1, 2, 1);
        act(x, 0, 1, 0, -9, 2, 1);
        act(x, 1, 1, 10, 22, 2, 11, 1);
    }

    private static void heapLooks() {
        MistHeaps x = new MistHeaps();
        x.heap(0, 9, 0);
        act(x, 0, 2, 10, 2, 3, 2, 1);
        act(x, 0, 2, 0, -18, 3, 2, 1);
    }

    private static void highSees() {
        MistHeaps x = heaps(new MistHeaps(), 0, 1);
        x.heap(1, 9, 2);
        act(x, 2, 0, 10, 32, 11, 1);
        act(x, 2, 0, -1, -1, 11, 1);
    }

    private static void lowGoes() {
        MistHeaps x = heaps(new MistHeaps(), 0, 1);
        x.heap(2, 9, 2);
        act(x, 2, 1, 10, -3, 21, 2, 1);
        act(x, 2, 1, 0, 7, 21, 2, 1);
    }

    private static void falseLooks() {
        MistHeaps x = heaps(new MistHeaps(), 0, 1);
        x.heap(3, 9, 2);
        act(x, 2, 2, 10, 1, 31, 3, 2, 1);
        act(x, 2, 2, 7, 7, 31, 3, 2, 1);
    }

    private static void turningLooks() {
        MistHeaps x = heaps(new MistHeaps(), 0, 1);
        x.heap(4, 9, 2);
        act(x, 2, 2, 10, 2 * (27 + 2 - 9) + 8, 41, 3, 2, 11, 1, 11, 1);
    }

    private static void snowedSees() {
        MistHeaps x = heaps(new MistHeaps(), 0, 1, 2);
        x.heap(5, 9, 3);
        act(x, 3, 0, 10, 13 ^ 3, 51, 1);
        act(x, 3, 0, 6, 9 ^ 3, 51, 1);
    }

    private static void oldGoes() {
        MistHeaps x = heaps(new MistHeaps(), 0, 1);
        x.heap(6, 9, 2);
        act(x, 2, 1, 10, 12, 61, 2, 1);
        act(x, 2, 1, 0, 2, 61, 2, 1);
    }

    private static void nextKindAbove() {
        MistHeaps x = ofAllKinds();
        act(x, 3, 0, 5, 8, 1);
        act(x, 4, 0, 5, 19, 11, 1);
        act(x, 4, 1, 5, 14, 2, 11, 1);
        act(x, 5, 1, 3, -7, 21, 2, 51, 1);
        act(x, 5, 2, 3, -14, 3, 21, 2, 51, 1);
        act(x, 6, 0, 5, 11, 1);
        act(x, 6, 2, 5, 17, 31, 3, 61, 2, 1);
        act(x, 1, 2, 5, 28, 3, 2, 11, 1);
    }

    private static void fromTheKindAbove() {
        MistHeaps x = ofAllKinds();
        act(x, 4, 2, 5, 32, 41, 3, 2, 11, 1, 11, 1);
        act(x, 5, 0, 8, 8, 51, 1);
        act(x, 6, 1, 5, 11, 61, 2, 1);
    }

    private static void fromTheLeftOn() {
        act(ofAllKinds(), 4, 2, 5, 32, 41, 3, 2, 11, 1, 11, 1);
    }

    private static void theTrace() {
        MistHeaps x = ofAllKinds();
        due("none yet", x.trace(0), NONE);
        act(x, 6, 2, 5, 17, 31, 3, 61, 2, 1);
        act(x, 0, 0, 5, 5, 1);
        act(x, 1, 1, 5, 14, 2, 11, 1);
    }

    private static void firstTwenty() {
        MistHeaps x = ofAllKinds();
        x.act(4, 2, 5);
        due("no act has more bodies than this one", x.count(5), 7);
        due("the first", x.trace(0), 41);
        due("the sixth", x.trace(5), 11);
        due("the last", x.trace(6), 1);
        due("none behind it", x.trace(7), NONE);
        due("none behind 20", x.trace(20), NONE);
    }

    private static void theImage() {
        MistHeaps x = new MistHeaps();
        Checks.hill(x, "sight 4;drift 2 r=0");
        heaps(x, 0, 4);
        x.edges(cells(1, 2));
        x.set(0, 1);
        x.set(1, 2);
        walks(x, 2, 3);
        x.book(0);
        x.book(1);
        Checks.feed(x, "sight 1");
        due("the image", x.image(), 2);
        x.walk(-1);
        walks(x, 6, 6, 6);
        x.book(-1);
        for (int heap : new int[] {1, 0, 0}) x.book(heap);
        x.hill();
        Checks.feed(x, "hide");
        x.edges(cells(5));
        x.set(0, 8);
        x.set(1, 7);
        x.heap(3, 0, 30);
        x.act(2, 2, 1);
        for (int again = 0; again < 2; again++) {
            due("back", x.undo(), 2);
            allIsAsItWas(x);
            x.hill();
            x.set(0, 9);
            x.walk(-1);
            x.walk(0);
        }
        MistHeaps later = heaps(new MistHeaps(), 3);
        later.image();
        later.heap(1, 5, 4);
        later.image();
        later.heap(2, 6, 5);
        due("the newer one alone is kept", later.undo(), 2);
        MistHeaps fewer = new MistHeaps();
        fewer.image();
        fewer.heap(3, 7, 9);
        fewer.undo();
        fewer.heap(2, 6, 8);
        due("another HEAP now", fewer.of(0, 0), 2);
        fewer.image();
        fewer.undo();
        due("and it stays", fewer.of(0, 0), 2);
    }

    private static void allIsAsItWas(MistHeaps x) {
        int[] counts = {2, 1, 2, 2, 7};
        for (int what = 0; what < 5; what++) due("count(" + what + ")", x.count(what), counts[what]);
        int[] told = {1, 2, 4, 2};
        for (int what = 0; what < 4; what++) due("told(" + what + ")", x.told(what), told[what]);
        due("CELL of HEAP 1", x.of(1, 2), 4);
        due("no HEAP 2", x.of(2, 2), NONE);
        due("drift", x.drift(5), 2);
        due("EDGES", x.odds(2, 40, 0), 1);
        due("no other EDGE", x.odds(5, 40, 0), 0);
        due("THE WALK", x.odds(12, 20, 0), 1);
        due("the BOOK", x.looked(), 1);
        due("THE TRACE stays", x.count(5), 4);
        due("its first body", x.trace(0), 31);
        due("THE TAPE", x.hill(), 1);
        due("its sight", x.told(2), 1);
    }
}
