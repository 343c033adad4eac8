/** Each promise of the document in its order, with answers worked out by hand. */
public final class PromisesTest extends Given {
    private PromisesTest() {
    }

    public static void main(String[] args) {
        p01NewObject();
        p02Feed();
        p03HillWords();
        p03HillExpressions();
        p03HillClauses();
        p03HillState();
        p04Edges();
        p05Set();
        p06Told();
        p07Heap();
        p08OfKinds();
        p08OfClauses();
        p09Sees();
        p10Where();
        p11Steps();
        p11StepsTurning();
        p12Via();
        p13Cuts();
        p14Bears();
        p15Build();
        p16Drift();
        p17Walk();
        p18Odds();
        p18OddsOfSeen();
        p19Best();
        p20BestOdds();
        p21Safe();
        p22Line();
        p23Next();
        p24Book();
        p25Looked();
        p26Act();
        p27Trace();
        p28As();
        p29Image();
        p30Undo();
        p31Count();
        Checks.end("PromisesTest");
    }

    private static void p01NewObject() {
        MistHeaps x = new MistHeaps();
        for (int what = 0; what <= 5; what++) due("1: count(" + what + ")", x.count(what), 0);
        due("1: MIST", x.told(0), 0);
        due("1: SNOW", x.told(1), 0);
        due("1: sight", x.told(2), 3);
        due("1: EDGES", x.told(3), 0);
        due("1: no heap", x.of(0, 0), NONE);
        due("1: sees", x.sees(0), 0);
        due("1: where", x.where(0), ALL);
        due("1: drift", x.drift(35), 0);
        due("1: looked", x.looked(), NOWHERE);
        due("1: trace", x.trace(0), NONE);
        due("1: no image", x.undo(), STATE);
        due("1: first heap", x.heap(0, 0, 0), 0);
        due("NO", MistHeaps.NO, NO);
    }

    private static void p02Feed() {
        MistHeaps x = new MistHeaps();
        due("2: feed(-1)", x.feed(-1), BAD);
        due("2: feed(128)", x.feed(128), BAD);
        due("2: none came", x.count(4), 0);
        due("2: feed(0)", x.feed(0), 1);
        due("2: feed(127)", x.feed(127), 2);
        for (int many = 3; many <= 100; many++) due("2: feed(32)", x.feed(32), many);
        due("2: feed at 100", x.feed(32), FULL);
        due("2: BAD is told first", x.feed(128), BAD);
        due("2: still 100", x.count(4), 100);
        due("2: byte 0 is a fault", x.hill(), -10);
        due("2: and again", x.feed(32), 1);
    }

    private static void p03HillWords() {
        fault("", 0);
        fault(";", 0);
        fault(" sight 1", 0);
        fault("Sight 1", 0);
        fault("x", 0);
        fault("s", 1);
        fault("sx", 1);
        fault("sex", 2);
        fault("see", 3);
        fault("see;", 3);
        fault("si", 2);
        fault("sigh", 4);
        fault("sight", 5);
        fault("sights", 5);
        fault("hi", 2);
        fault("hidden", 3);
        fault("d", 1);
        fault("drifts 1 h=1", 5);
        fault("sight ", 6);
        fault("sight  1", 6);
        fault("sight a", 6);
        fault("sight 1 ", 7);
        fault("sight 1 h=1", 7);
        fault("sight 0", -1);
        fault("sight 9", -1);
        fault("sight 10", -1);
        fault("sight 99", -1);
        fault("sight 00", 7);
        fault("sight 05", 7);
        fault("sight 100", 8);
        fault("sight -1", 6);
        fault("see 1", 5);
        fault("see 1;", 5);
        fault("see 1 ", 6);
        fault("see 1  h=1", 6);
        fault("see 01 h=1", 5);
        fault("see 12 h=1", -1);
        fault("see 123 h=1", 6);
        fault("hide 0 h=1", -1);
        fault("drift 1 h=1", -1);
        fault("drift 1 h=1 ", 11);
    }

    private static void p03HillExpressions() {
        for (char fact : "hkrcms".toCharArray()) fault("see 1 " + fact + "=0", -1);
        for (char fact : "HKabn01=;)&|".toCharArray()) fault("see 1 " + fact + "=0", 6);
        for (char relation : "<=>".toCharArray()) fault("see 1 h" + relation + "0", -1);
        for (char relation : "!-0 ;".toCharArray()) fault("see 1 h" + relation + "0", 7);
        fault("see 1 h", 7);
        fault("see 1 h=", 8);
        fault("see 1 h==", 8);
        fault("see 1 h=99", -1);
        fault("see 1 h=01", 9);
        fault("see 1 h=123", 10);
        fault("see 1 h=1=", 9);
        fault("see 1 h=1)", 9);
        fault("see 1 h=1!", 9);
        fault("see 1 (h=1", 10);
        fault("see 1 (h=1;", 10);
        fault("see 1 (h=1)", -1);
        fault("see 1 (h=1))", 11);
        fault("see 1 (h=1)1", 11);
        fault("see 1 ()", 7);
        fault("see 1 h=1&", 10);
        fault("see 1 h=1&&h=1", 10);
        fault("see 1 h=1||h=1", 10);
        fault("see 1 h=1&|h=1", 10);
        fault("see 1 !", 7);
        fault("see 1 !)", 7);
        fault("see 1 h=1&k=2|r<3&!c>4|(m=0|s=1)&!(h=2)", -1);
        fault("see 1 !!!!!h=1", -1);
        fault("see 1 !!!!!!h=1", 11);
        fault("see 1 (((((h=1)))))", -1);
        fault("see 1 ((((((h=1))))))", 11);
        fault("see 1 !(!(!h=1))", -1);
        fault("see 1 !(!(!(h=1)))", 11);
        fault("see 1 !(!(!!h=1))", 11);
        fault("see 1 !!!!!h=1&!!!!!h=1|!!!!!h=1", -1);
        fault("see 1 (((((h=1)))))&(((((h=1)))))", -1);
        fault("see 1 ((((!h=1&!h=2))))", -1);
        fault("see 1 ((((!h=1&!!h=2))))", 16);
        fault("see 1 !(h=1)&!!!!!h=1", -1);
        fault("see 1 !(h=1&!!!!h=1)", 15);
    }

    private static void p03HillClauses() {
        fault("sight 1;", 8);
        fault("sight 1;;", 8);
        fault("sight 1; sight 1", 8);
        fault("sight 1,sight 1", 7);
        fault("sight 1;see 2 h=1;hide 3 k=4;drift 5 r<6", -1);
        fault("see 1 h=1;x", 10);
        StringBuilder ten = new StringBuilder("sight 1");
        for (int i = 1; i < 10; i++) ten.append(";sight 1");
        fault(ten.toString(), -1);
        fault(ten + ";", 79);
        fault(ten + ";sight 1", 79);
        fault(ten + "1;sight 1", 80);
        String long100 = "see 1 h=10" + "|h=10".repeat(18);
        due("3: as long as can be", long100.length(), 100);
        fault(long100, -1);
        fault(long100.substring(0, 98), 98);
        fault(long100.substring(0, 95) + "&&&&&", 96);
    }

    private static void p03HillState() {
        MistHeaps x = new MistHeaps();
        due("3: first", Checks.hill(x, "sight 7"), 0);
        due("3: tape is empty", x.count(4), 0);
        due("3: fault", Checks.hill(x, "sight 8;"), -18);
        due("3: tape is empty behind a fault", x.count(4), 0);
        due("3: the one that held holds", x.told(2), 7);
        due("3: still one", x.count(1), 1);
        due("3: second", Checks.hill(x, "see 1 h=0"), 1);
        due("3: the newest holds", x.told(2), 3);
        due("3: third", Checks.hill(x, "sight 2"), 2);
        due("3: fourth", Checks.hill(x, "sight 3"), 3);
        due("3: fifth", Checks.hill(x, "sight 4"), 4);
        due("3: five at most", Checks.hill(x, "sight 5"), FULL);
        due("3: the tape stays", x.count(4), 7);
        due("3: the fifth holds", x.told(2), 4);
        due("3: FULL once more", x.hill(), FULL);
        x.feed(';');
        due("3: FULL ahead of a fault", x.hill(), FULL);
        due("3: the tape stays too", x.count(4), 8);
        due("3: five", x.count(1), 5);
        MistHeaps again = heaps(new MistHeaps(), 0);
        due("3: whole", Checks.hill(again, "sight 1"), 0);
        due("3: signs of an earlier tape do not count", Checks.hill(again, "sigh"), -14);
        due("3: nor those of a number", Checks.hill(again, "sight "), -16);
        due("3: a fault behind a test", Checks.hill(again, "see 50 h=0|h=0;x"), -25);
        due("3: then another", Checks.hill(again, "see 10 h=1"), 1);
        due("3: the test ahead of the fault is gone", again.of(0, 3), 3);
        due("3: likewise", Checks.hill(again, "see 50 h=1;x"), -21);
        due("3: and then", Checks.hill(again, "see 10 h=0"), 2);
        due("3: only the last is there", again.of(0, 3), 13);
        String full = "see 1 h=9" + "|h=9".repeat(21) + ";x";
        for (int i = 0; i < 5; i++) due("3: a long fault", Checks.hill(again, full), -10 - full.length() + 1);
        due("3: a clause ahead of a fault", Checks.hill(again, "see 5 h=9;see 50 h=0;see 50 h=0;x"), -42);
        due("3: there is room", Checks.hill(again, "see 20 h=9|h=8|h=7|h=6|h=0"), 3);
        due("3: for all of it, and for nothing else", again.of(0, 3), 23);
        StringBuilder ten = new StringBuilder("see 1 h=0");
        for (int i = 1; i < 10; i++) ten.append(";see 1 h=0");
        due("3: ten clauses", Checks.hill(again, ten.toString()), 4);
        due("3: all ten hold", again.of(0, 3), 13);
    }

    private static void p04Edges() {
        MistHeaps x = new MistHeaps();
        due("4: edges(1 << 36)", x.edges(1L << 36), BAD);
        due("4: edges(-1)", x.edges(-1), BAD);
        due("4: edges(NO)", x.edges(NO), BAD);
        due("4: all", x.edges(ALL), 0);
        due("4: refused", x.edges(ALL + 1), BAD);
        due("4: 36 of them", x.told(3), 36);
        due("4: the first and the last", x.edges(cells(0, 35)), 36);
        due("4: none", x.edges(0), 2);
        due("4: there were none", x.edges(cells(3)), 0);
        due("4: told", x.told(3), 1);
        due("4: over cell 3", x.odds(3, 40, 0), 1);
        due("4: not over cell 4", x.odds(4, 40, 0), 0);
    }

    private static void p05Set() {
        MistHeaps x = new MistHeaps();
        due("5: set(-1, 0)", x.set(-1, 0), NONE);
        due("5: set(2, 0)", x.set(2, 0), NONE);
        due("5: NONE is told first", x.set(2, 10), NONE);
        due("5: set(0, -1)", x.set(0, -1), BAD);
        due("5: set(0, 10)", x.set(0, 10), BAD);
        due("5: set(1, 10)", x.set(1, 10), BAD);
        due("5: set(0, 9)", x.set(0, 9), 0);
        due("5: set(1, 4)", x.set(1, 4), 0);
        due("5: set(0, 2)", x.set(0, 2), 9);
        due("5: set(1, 0)", x.set(1, 0), 4);
        due("5: set(1, -1)", x.set(1, -1), BAD);
        due("5: MIST", x.told(0), 2);
        due("5: SNOW", x.told(1), 0);
    }

    private static void p06Told() {
        MistHeaps x = new MistHeaps();
        x.set(0, 5);
        x.set(1, 6);
        x.edges(7);
        due("6: MIST", x.told(0), 5);
        due("6: SNOW", x.told(1), 6);
        due("6: sight without", x.told(2), 3);
        due("6: EDGES", x.told(3), 3);
        due("6: told(4)", x.told(4), NONE);
        due("6: told(-1)", x.told(-1), NONE);
        due("6: the last sight", Checks.withHill("sight 5;see 9 h=0;sight 12;hide 1 h=0").told(2), 12);
        due("6: sight 0", Checks.withHill("sight 0").told(2), 0);
        due("6: a hill without sight", Checks.withHill("see 9 h=0").told(2), 3);
    }

    private static void p07Heap() {
        MistHeaps x = new MistHeaps();
        due("7: kind -1", x.heap(-1, 0, 0), NONE);
        due("7: kind 7", x.heap(7, 0, 0), NONE);
        due("7: cell -1", x.heap(0, 0, -1), NONE);
        due("7: cell 36", x.heap(0, 0, 36), NONE);
        due("7: NONE of the cell ahead of BAD", x.heap(0, 10, 36), NONE);
        due("7: v -1", x.heap(0, -1, 0), BAD);
        due("7: v 10", x.heap(0, 10, 0), BAD);
        due("7: none yet", x.count(0), 0);
        for (int i = 0; i < 7; i++) due("7: heap " + i, x.heap(i, 9, 5 * i), i);
        due("7: BAD ahead of STATE", x.heap(0, 10, 0), BAD);
        due("7: that cell is taken", x.heap(1, 0, 30), STATE);
        due("7: the first one's too", x.heap(1, 0, 0), STATE);
        due("7: eighth", x.heap(0, 0, 35), 7);
        due("7: STATE ahead of FULL", x.heap(0, 0, 35), STATE);
        due("7: FULL", x.heap(0, 0, 34), FULL);
        due("7: NONE ahead of FULL", x.heap(7, 0, 34), NONE);
        due("7: eight", x.count(0), 8);
        for (int i = 0; i < 7; i++) {
            due("7: kind of " + i, x.of(i, 0), i);
            due("7: v of " + i, x.of(i, 1), 9);
            due("7: cell of " + i, x.of(i, 2), 5 * i);
        }
    }

    private static void reach(int kind, int v, int mist, int snow, int want) {
        MistHeaps x = new MistHeaps();
        x.set(0, mist);
        x.set(1, snow);
        x.heap(kind, v, 8);
        due("8: REACH of kind " + kind + ", v " + v + ", MIST " + mist + ", SNOW " + snow, x.of(0, 3), want);
    }

    private static void p08OfKinds() {
        MistHeaps x = new MistHeaps();
        due("8: of(0, 0)", x.of(0, 0), NONE);
        x.heap(4, 3, 35);
        due("8: KIND", x.of(0, 0), 4);
        due("8: v", x.of(0, 1), 3);
        due("8: CELL", x.of(0, 2), 35);
        due("8: REACH", x.of(0, 3), 4);
        due("8: of(0, 4)", x.of(0, 4), NONE);
        due("8: of(0, -1)", x.of(0, -1), NONE);
        due("8: of(1, 0)", x.of(1, 0), NONE);
        due("8: of(-1, 0)", x.of(-1, 0), NONE);
        reach(0, 9, 0, 9, 3);
        reach(0, 0, 2, 0, 1);
        reach(0, 0, 3, 0, 0);
        reach(0, 0, 9, 0, 0);
        reach(1, 0, 0, 0, 3);
        reach(1, 2, 0, 0, 3);
        reach(1, 3, 0, 0, 4);
        reach(1, 8, 0, 9, 5);
        reach(1, 9, 5, 0, 1);
        reach(1, 9, 6, 0, 0);
        reach(1, 9, 9, 0, 0);
        reach(4, 8, 0, 0, 5);
        reach(4, 9, 4, 9, 2);
        reach(2, 9, 0, 9, 2);
        reach(2, 0, 3, 0, 0);
        reach(3, 9, 0, 9, 3);
        reach(5, 4, 0, 4, 2);
        reach(5, 4, 0, 5, 0);
        reach(5, 9, 1, 9, 1);
        reach(5, 9, 4, 9, 0);
        reach(6, 9, 0, 0, 1);
        reach(6, 0, 2, 0, 1);
        reach(6, 0, 3, 0, 0);
    }

    /** Of heap 1, HIGH with v 0, row 2, column 4, MIST 1 and SNOW 5: 2 and what the clauses make of it. */
    private static void clause(String text, int want) {
        MistHeaps x = Checks.withHill(text);
        x.heap(0, 0, 0);
        x.heap(1, 0, 16);
        x.set(0, 1);
        x.set(1, 5);
        due("8: REACH by " + text, x.of(1, 3), want);
    }

    private static void p08OfClauses() {
        String[] facts = {"h1", "k1", "r2", "c4", "m1", "s5"};
        for (String fact : facts) {
            char letter = fact.charAt(0);
            int is = fact.charAt(1) - '0';
            clause("see 10 " + letter + "=" + is, 12);
            clause("see 10 " + letter + "<" + is, 2);
            clause("see 10 " + letter + ">" + is, 2);
            clause("see 10 " + letter + "=" + (is + 1), 2);
            clause("see 10 " + letter + "<" + (is + 1), 12);
            clause("see 10 " + letter + ">" + (is + 1), 2);
            clause("see 10 " + letter + "=" + (is - 1), 2);
            clause("see 10 " + letter + "<" + (is - 1), 2);
            clause("see 10 " + letter + ">" + (is - 1), 12);
            clause("see 10 " + letter + "<" + (is + 10), 12);
        }
        clause("hide 1 h=1", 1);
        clause("hide 1 h=0", 2);
        clause("hide 99 h=1", 0);
        clause("see 9 h=1;hide 9 h=1", 2);
        clause("see 2 h=1;see 3 k=1;see 50 k=2;hide 1 r=2;hide 2 c=4;hide 50 s=0", 4);
        clause("hide 20 h=1;see 20 h=1;sight 6", 7 - 2);
        clause("drift 9 h=1", 2);
        clause("see 10 !h=1", 2);
        clause("see 10 !h=0", 12);
        clause("see 10 !!h=1", 12);
        clause("see 10 h=1|h=0&h=0", 12);
        clause("see 10 h=0&h=0|h=1", 12);
        clause("see 10 (h=1|h=0)&h=0", 2);
        clause("see 10 h=0&(h=0|h=1)", 2);
        clause("see 10 !h=0&h=0", 2);
        clause("see 10 !(h=0&h=0)", 12);
        clause("see 10 !h=1|h=1", 12);
        clause("see 10 !(h=1|h=1)", 2);
        clause("see 10 h=1&k=1&r=2&c=4&m=1&s=5", 12);
        clause("see 10 h=1&k=1&r=2&c=4&m=1&s=4", 2);
        clause("see 10 h=0|k=0|r=0|c=0|m=0|s=5", 12);
        clause("see 10 h=0|(h=1&(h=0|(h=1&(h=0|(h=1&h=1)))))", 12);
        clause("see 10 h=0|(h=1&(h=0|(h=1&(h=0|(h=1&h=0)))))", 2);
        clause("see 10 h=0|h=1&(h=0|h=1&(h=0|h=1&(h=0|h=1&(h=0|h=1&(h=0|h=1&h=1)))))", 12);
        clause("see 10 h=0|h=1&(h=0|h=1&(h=0|h=1&(h=0|h=1&(h=0|h=1&(h=0|h=1&h=0)))))", 2);
        MistHeaps x = Checks.withHill("see 10 h=0");
        x.heap(0, 0, 0);
        due("8: the first hill", x.of(0, 3), 13);
        due("8: another hill", Checks.hill(x, "sight 1"), 1);
        due("8: only the newest one holds", x.of(0, 3), 1);
        MistHeaps snowed = Checks.withHill("see 50 h<9");
        snowed.heap(5, 0, 0);
        snowed.heap(6, 0, 1);
        due("8: SNOWED without snow", snowed.of(0, 3), 52);
        due("8: OLD", snowed.of(1, 3), 1);
        snowed.set(1, 1);
        due("8: SNOWED under snow, whatever the hill says", snowed.of(0, 3), 0);
    }

    private static void p09Sees() {
        MistHeaps x = sight(1, 14, 16, 0);
        due("9: sees(-1)", x.sees(-1), NONE);
        due("9: sees(36)", x.sees(36), NONE);
        due("9: sees(14)", x.sees(14), 1);
        due("9: sees(15)", x.sees(15), 3);
        due("9: sees(7)", x.sees(7), 5);
        due("9: sees(21)", x.sees(21), 3);
        due("9: sees(35)", x.sees(35), 0);
        due("9: sees(5), the next in number but not on the hill", x.sees(5), 0);
        due("9: sees(6)", x.sees(6), 4);
        x.set(0, 1);
        due("9: REACH 0", x.sees(14), 1);
        due("9: REACH 0 from beside", x.sees(15), 0);
        x.heap(3, 0, 35);
        x.heap(1, 9, 33);
        due("9: FALSE and HIGH are seen", x.sees(35), 24);
    }

    private static void p10Where() {
        MistHeaps x = sight(1, 14);
        long around = cells(7, 8, 9, 13, 14, 15, 19, 20, 21);
        due("10: where(1)", x.where(1), around);
        due("10: where(0)", x.where(0), ALL & ~around);
        due("10: where(2)", x.where(2), NO);
        due("10: where(3)", x.where(3), NO);
        due("10: where(-1)", x.where(-1), NO);
        due("10: where(MIN)", x.where(Integer.MIN_VALUE), NO);
        heaps(x, 16);
        due("10: both", x.where(3), cells(9, 15, 21));
        due("10: just the first", x.where(1), cells(7, 8, 13, 14, 19, 20));
        due("10: just the second", x.where(2), cells(10, 11, 16, 17, 22, 23));
        heaps(x, 30, 31, 32, 33, 34, 35);
        due("10: none sees all", x.where(255), 0);
        due("10: where(256)", x.where(256), NO);
        x.set(0, 1);
        due("10: the last alone", x.where(128), cells(35));
    }

    private static void p11Steps() {
        MistHeaps x = sight(1, 0, 1, 2, 3, 20);
        due("11: one HEAP", x.steps(2, 2), 0);
        due("11: beside", x.steps(0, 1), 1);
        due("11: along", x.steps(0, 3), 3);
        due("11: back", x.steps(3, 0), 3);
        due("11: none", x.steps(0, 4), NOWHERE);
        due("11: from there", x.steps(4, 0), NOWHERE);
        due("11: steps(-1, 0)", x.steps(-1, 0), NONE);
        due("11: steps(0, -1)", x.steps(0, -1), NONE);
        due("11: steps(5, 0)", x.steps(5, 0), NONE);
        due("11: steps(0, 5)", x.steps(0, 5), NONE);
        due("11: steps(5, 5)", x.steps(5, 5), NONE);
        MistHeaps eight = sight(1, 0, 1, 2, 3, 4, 5, 11, 17);
        due("11: by all eight", eight.steps(0, 7), 6);
        MistHeaps high = sight(1, 3);
        high.heap(1, 9, 0);
        due("11: to the HIGH one", high.steps(0, 1), 1);
        due("11: from the HIGH one", high.steps(1, 0), NOWHERE);
        for (int kind = 0; kind <= 6; kind++) {
            MistHeaps by = sight(2, 0);
            by.heap(kind, 2, 1);
            heaps(by, 3);
            boolean goesOn = kind != 3 && kind != 6;
            due("11: by kind " + kind, by.steps(0, 2), goesOn ? 2 : NOWHERE);
            due("11: from kind " + kind, by.steps(1, 2), goesOn ? 1 : NOWHERE);
            due("11: to kind " + kind, by.steps(0, 1), 1);
            due("11: at kind " + kind, by.steps(1, 1), 0);
        }
    }

    private static void p11StepsTurning() {
        // North, north-east and so on round; there are only eight heaps, so the last side is left empty.
        int[] sides = {8, 9, 15, 21, 20, 19, 13};
        int[] due = {0b0000011, 0b0000010, 0b0001110, 0b0001000, 0b0111000, 0b0100000, 0b1100000, 0, 0b0000011, 0b0000010};
        for (int v = 0; v <= 9; v++) {
            MistHeaps x = sight(5, sides);
            x.heap(4, v, 14);
            int bits = 0;
            for (int i = 0; i < 7; i++) bits |= x.steps(7, i) == 1 ? 1 << i : 0;
            due("11: TURNING with v " + v, bits, due[v]);
        }
        MistHeaps west = sight(5, 7, 35);
        west.heap(4, 7, 14);
        due("11: TURNING to a lesser row and column", west.steps(2, 0), 1);
        due("11: TURNING, then on", west.steps(2, 1), 2);
        due("11: to a TURNING one from any side", west.steps(1, 2), 1);
        MistHeaps far = sight(5, 2, 5);
        far.heap(4, 1, 13);
        due("11: farther on that side", far.steps(2, 1), 1);
        due("11: on that side, not just that WAY", far.steps(2, 0), 1);
    }

    private static void p12Via() {
        MistHeaps x = sight(1, 6, 13, 1, 8, 35);
        due("12: steps", x.steps(0, 3), 2);
        due("12: the least of two", x.via(0, 3), 1);
        due("12: back", x.via(3, 0), 1);
        due("12: at once", x.via(0, 2), 2);
        due("12: one HEAP", x.via(0, 0), NOWHERE);
        due("12: none", x.via(0, 4), NOWHERE);
        due("12: via(0, 5)", x.via(0, 5), NONE);
        due("12: via(-1, 0)", x.via(-1, 0), NONE);
        MistHeaps around = sight(1, 7, 0, 8, 9);
        due("12: not by the least, which leads no nearer", around.via(0, 3), 2);
        due("12: from the least", around.via(1, 3), 0);
        MistHeaps closed = sight(1, 6);
        closed.heap(3, 0, 13);
        heaps(closed, 1, 8);
        due("12: not by the FALSE one", closed.via(0, 3), 2);
    }

    private static void p13Cuts() {
        MistHeaps x = sight(1, 0, 1, 2, 3, 20);
        due("13: along", x.cuts(0, 3), 6);
        due("13: shorter", x.cuts(0, 2), 2);
        due("13: beside", x.cuts(0, 1), 0);
        due("13: one HEAP", x.cuts(1, 1), 0);
        due("13: none anyhow", x.cuts(0, 4), 0);
        due("13: cuts(0, 5)", x.cuts(0, 5), NONE);
        due("13: cuts(-1, 5)", x.cuts(-1, 5), NONE);
        MistHeaps two = sight(1, 6, 13, 1, 8, 9);
        due("13: two rows", two.cuts(0, 3), 0);
        due("13: and then one", two.cuts(0, 4), 8);
        MistHeaps first = sight(1, 1, 0, 2);
        due("13: the first HEAP", first.cuts(1, 2), 1);
        due("13: STEPS by it", first.steps(1, 2), 2);
        MistHeaps longer = sight(1, 6, 7, 8, 12, 19, 14);
        due("13: a longer way about counts", longer.cuts(0, 2), 0);
    }

    private static void p14Bears() {
        MistHeaps x = sight(2, 0);
        x.heap(5, 4, 1);
        heaps(x, 3);
        due("14: by the SNOWED one", x.bears(0, 2), 4);
        due("14: to the SNOWED one", x.bears(0, 1), 4);
        due("14: from the SNOWED one", x.bears(1, 2), 9);
        due("14: none", x.bears(2, 1), NOWHERE);
        due("14: one HEAP", x.bears(1, 1), 9);
        x.set(1, 9);
        due("14: now there are none", x.steps(0, 2), NOWHERE);
        due("14: whatever SNOW there is", x.bears(0, 2), 4);
        due("14: nothing has changed", x.told(1), 9);
        due("14: bears(0, 3)", x.bears(0, 3), NONE);
        due("14: bears(-1, 0)", x.bears(-1, 0), NONE);
        MistHeaps hidden = heaps(Checks.withHill("hide 9 s>6"), 0, 1);
        due("14: hidden by SNOW", hidden.bears(0, 1), 6);
        MistHeaps just = heaps(Checks.withHill("sight 0;see 1 s=3"), 0, 1);
        due("14: just with 3", just.bears(0, 1), 3);
        MistHeaps zero = heaps(Checks.withHill("sight 0;see 1 s=0"), 0, 1);
        due("14: with none", zero.bears(0, 1), 0);
        due("14: by the first HEAP", sight(1, 1, 0, 2).bears(1, 2), 9);
        MistHeaps mist = sight(2, 0, 2);
        mist.set(0, 1);
        due("14: with the MIST as it is", mist.bears(0, 1), NOWHERE);
    }

    private static void p15Build() {
        MistHeaps x = sight(2, 0, 12, 24, 26, 28);
        due("15: now", x.steps(0, 4), 3);
        due("15: the CELL", x.build(0, 4, 0), 14);
        due("15: STEPS then", x.build(0, 4, 1), 2);
        due("15: back", x.build(4, 0, 0), 14);
        due("15: not fewer", x.build(0, 1, 0), NOWHERE);
        due("15: not fewer, STEPS", x.build(0, 1, 1), NOWHERE);
        due("15: one HEAP", x.build(1, 1, 0), NOWHERE);
        due("15: build(0, 4, 2)", x.build(0, 4, 2), NONE);
        due("15: build(0, 4, -1)", x.build(0, 4, -1), NONE);
        due("15: build(0, 5, 0)", x.build(0, 5, 0), NONE);
        due("15: build(-1, 4, 0)", x.build(-1, 4, 0), NONE);
        due("15: nothing was built", x.count(0), 5);
        due("15: and STEPS are as they were", x.steps(0, 4), 3);
        MistHeaps wide = sight(3, 0, 5);
        due("15: the least of several", wide.build(0, 1, 0), 2);
        heaps(wide, 35);
        due("15: to the corner", wide.build(0, 2, 0), 14);
        MistHeaps taken = sight(3, 0, 5);
        taken.heap(3, 0, 2);
        due("15: not where one stands", taken.build(0, 1, 0), 3);
        MistHeaps numbered = heaps(Checks.withHill("sight 1;see 9 h=2"), 0, 5);
        due("15: its number is behind the others'", numbered.build(0, 1, 0), 4);
        due("15: two STEPS by it", numbered.build(0, 1, 1), 2);
        MistHeaps kind = heaps(Checks.withHill("sight 1;see 9 k=0&h>1"), 0, 5);
        due("15: it is of KIND 0", kind.build(0, 1, 0), 4);
        MistHeaps row = heaps(Checks.withHill("sight 3;hide 9 r=0&h>1"), 0, 5);
        due("15: it is on that CELL", row.build(0, 1, 0), 8);
        due("15: on CELL 0", heaps(Checks.withHill("sight 1;see 4 h=2"), 30, 7).build(0, 1, 0), 0);
        due("15: no CELL beyond the last", heaps(Checks.withHill("sight 1;see 9 r>5"), 0, 30).build(0, 1, 0), NOWHERE);
        MistHeaps byFirst = sight(1, 1, 0, 2);
        due("15: by the first HEAP there are as few", byFirst.build(1, 2, 0), NOWHERE);
        MistHeaps byBoth = sight(1, 1, 0, 3);
        due("15: by the first HEAP and the new one", byBoth.build(1, 2, 0), 2);
        due("15: then there are three", byBoth.build(1, 2, 1), 3);
        MistHeaps two = sight(1, 0, 3);
        due("15: one is too few", two.build(0, 1, 0), NOWHERE);
        MistHeaps eight = sight(1, 0, 2, 4, 12, 14, 16, 24, 26);
        due("15: with 8 HEAPS", eight.build(0, 1, 0), NOWHERE);
        due("15: with 8 HEAPS, STEPS", eight.build(0, 1, 1), NOWHERE);
        due("15: NONE with 8 HEAPS", eight.build(0, 8, 0), NONE);
        due("15: NONE of what with 8 HEAPS", eight.build(0, 1, 2), NONE);
        MistHeaps seven = sight(1, 0, 2, 4, 12, 14, 16, 24);
        due("15: with 7 HEAPS", seven.build(0, 1, 0), 1);
    }

    private static void p16Drift() {
        MistHeaps x = Checks.withHill("drift 2 r=0;drift 2 c=0;drift 3 r=0&c=0;see 4 r=5;drift 1 r=5");
        due("16: both, 5 at most", x.drift(0), 5);
        due("16: row", x.drift(5), 2);
        due("16: column", x.drift(12), 2);
        due("16: neither", x.drift(7), 0);
        due("16: together", x.drift(30), 3);
        due("16: not see", x.drift(35), 1);
        due("16: drift(-1)", x.drift(-1), NONE);
        due("16: drift(36)", x.drift(36), NONE);
        due("16: h and k", Checks.withHill("drift 1 h=99&k=99").drift(3), 1);
        MistHeaps weather = Checks.withHill("drift 1 m=2;drift 3 s>1");
        due("16: calm", weather.drift(3), 0);
        weather.set(0, 2);
        due("16: MIST", weather.drift(3), 1);
        weather.set(1, 2);
        due("16: SNOW", weather.drift(3), 4);
        due("16: no hill", new MistHeaps().drift(0), 0);
    }

    private static void p17Walk() {
        MistHeaps x = new MistHeaps();
        due("17: walk(8)", x.walk(8), NONE);
        due("17: walk(-2)", x.walk(-2), NONE);
        due("17: none to take away", x.walk(-1), 0);
        for (int i = 1; i <= 6; i++) due("17: walk", x.walk(i + 1), i);
        due("17: FULL", x.walk(0), FULL);
        due("17: NONE ahead of FULL", x.walk(8), NONE);
        due("17: six", x.count(2), 6);
        due("17: none then", x.walk(-1), 0);
        due("17: no WAYS", x.count(2), 0);
        due("17: again", x.walk(0), 1);
        due("17: the WAY counts", x.odds(14, 8, 0), 1);
        int[] ends = {8, 9, 15, 21, 20, 19, 13, 7};
        for (int way = 0; way < 8; way++) {
            x.walk(-1);
            x.walk(way);
            due("17: WAY " + way, x.odds(14, ends[way], 0), 1);
        }
    }

    private static void p18Odds() {
        MistHeaps x = walks(Checks.withHill("drift 5 h=99"), 0);
        odds(x, 14, 8, 1, 2);
        odds(x, 14, 7, 1, 4);
        odds(x, 14, 9, 1, 4);
        odds(x, 14, 14, 0, 1);
        odds(x, 14, 20, 0, 1);
        odds(x, 0, 0, 1, 1);
        odds(x, 6, 0, 1, 2);
        odds(x, 6, 6, 1, 4);
        odds(x, 6, 1, 1, 4);
        odds(x, 14, 40, 0, 1);
        x.edges(cells(8));
        walks(x, 4);
        odds(x, 14, 8, 1, 2);
        odds(x, 14, 40, 1, 2);
        odds(x, 14, 14, 1, 8);
        odds(x, 14, 13, 1, 8);
        odds(x, 8, 8, 1, 1);
        odds(x, 8, 40, 1, 1);
        long[] refused = {x.odds(-1, 0, 0), x.odds(36, 0, 0), x.odds(0, -1, 0), x.odds(0, 36, 0), x.odds(0, 39, 0),
            x.odds(0, 41, 0), x.odds(0, 49, 0), x.odds(0, 50, 0), x.odds(0, 0, -1), x.odds(0, 0, 2)};
        for (int i = 0; i < refused.length; i++) due("18: refused " + i, refused[i], NO);
        MistHeaps thin = walks(Checks.withHill("drift 3 h=99"), 2, 2, 2, 2, 2);
        odds(thin, 30, 5, 243, 3200000);
        MistHeaps round = walks(Checks.withHill("drift 1 h=99"), 7);
        odds(round, 14, 7, 9, 10);
        odds(round, 14, 13, 1, 20);
        odds(round, 14, 8, 1, 20);
        MistHeaps here = walks(Checks.withHill("drift 2 r=2"), 0, 0);
        odds(here, 14, 2, 4, 5);
        odds(here, 14, 1, 1, 10);
        odds(here, 8, 2, 1, 1);
        MistHeaps still = new MistHeaps();
        odds(still, 7, 7, 1, 1);
        odds(still, 7, 8, 0, 1);
        still.edges(cells(7, 8));
        odds(still, 7, 40, 1, 1);
        odds(still, 9, 40, 0, 1);
        MistHeaps straight = walks(new MistHeaps(), 2, 2, 2, 2, 2, 2);
        odds(straight, 0, 5, 1, 1);
        straight.edges(cells(3));
        odds(straight, 0, 3, 1, 1);
        odds(straight, 4, 5, 1, 1);
        odds(straight, 4, 40, 0, 1);
    }

    private static void p18OddsOfSeen() {
        MistHeaps x = walks(heaps(Checks.withHill("drift 5 h=99;sight 0"), 8, 9), 0);
        odds(x, 14, 50, 1, 2);
        odds(x, 14, 51, 1, 4);
        due("18: no HEAP 2", x.odds(14, 52, 0), NO);
        due("18: no HEAP 7", x.odds(14, 57, 1), NO);
        x.edges(cells(9));
        odds(x, 14, 50, 1, 2);
        odds(x, 14, 51, 0, 1);
        odds(x, 14, 40, 1, 4);
        Checks.hill(x, "drift 5 h=99;sight 1");
        odds(x, 14, 50, 3, 4);
        odds(x, 14, 51, 1, 2);
        x.edges(cells(14));
        odds(x, 14, 50, 0, 1);
        MistHeaps still = sight(1, 7, 14, 35);
        odds(still, 0, 50, 1, 1);
        odds(still, 0, 51, 0, 1);
        odds(still, 35, 52, 1, 1);
        odds(still, 28, 52, 1, 1);
        odds(still, 27, 52, 0, 1);
    }

    private static void best(MistHeaps x, int cell, int other, long above, long below, int... row) {
        String call = "best(" + cell + ", " + other + ", " + row.length;
        for (int k = 0; k < row.length; k++) due("19: " + call + ", " + k + ")", x.best(cell, other, row.length, k), row[k]);
        due("20: above, " + call + ")", x.bestOdds(cell, other, row.length, 0), above);
        due("20: below, " + call + ")", x.bestOdds(cell, other, row.length, 1), below);
    }

    private static void p19Best() {
        MistHeaps x = new MistHeaps();
        best(x, 7, 21, 1, 1, 3, 3);
        best(x, 7, 28, 1, 1, 3, 3, 3);
        best(x, 7, 14, 1, 1, 3);
        best(x, 28, 7, 1, 1, 7, 7, 7);
        best(x, 31, 34, 1, 1, 1, 2, 3);
        best(x, 34, 31, 1, 1, 6, 6, 6);
        best(x, 0, 35, 0, 1, 0);
        best(x, 0, 35, 0, 1, 0, 0, 0);
        best(x, 0, 0, 1, 1, 0);
        best(x, 0, 1, 1, 1, 0, 2);
        best(x, 0, 1, 1, 1, 0, 0, 2);
        best(x, 14, 14, 1, 1, 0, 4);
        best(x, 14, 13, 1, 1, 0, 5);
        x.edges(cells(8));
        best(x, 14, 8, 1, 1, 0, 0);
        best(x, 8, 8, 1, 1, 0, 0, 0);
        best(x, 8, 14, 0, 1, 0, 0);
        best(x, 14, 13, 1, 1, 4, 7);
        due("19: cell -1", x.best(-1, 0, 1, 0), NONE);
        due("19: cell 36", x.best(36, 0, 1, 0), NONE);
        due("19: other -1", x.best(0, -1, 1, 0), NONE);
        due("19: other 36", x.best(0, 36, 1, 0), NONE);
        due("19: k -1", x.best(0, 0, 1, -1), NONE);
        due("19: k 3 ahead of n 4", x.best(0, 0, 4, 3), NONE);
        due("19: k 3 of 3", x.best(0, 0, 3, 3), NONE);
        due("19: n 0", x.best(0, 0, 0, 0), BAD);
        due("19: n 4", x.best(0, 0, 4, 0), BAD);
        due("19: n 0 ahead of k", x.best(0, 0, 0, 2), BAD);
        due("19: cell ahead of n", x.best(0, 36, 4, 0), NONE);
        due("19: k is n", x.best(0, 0, 1, 1), NONE);
        due("19: k is more than n", x.best(0, 0, 1, 2), NONE);
        due("19: k is n, of two", x.best(0, 0, 2, 2), NONE);
    }

    private static void p20BestOdds() {
        MistHeaps x = Checks.withHill("drift 5 h=99");
        best(x, 14, 8, 1, 2, 0);
        best(x, 14, 2, 3, 8, 0, 0);
        best(x, 1, 1, 1, 1, 0);
        // The other ways lead beyond the hill from the corner, so one stays more often.
        best(x, 0, 6, 1, 2, 4);
        MistHeaps slight = Checks.withHill("drift 1 h=99");
        best(slight, 14, 8, 9, 10, 0);
        MistHeaps first = new MistHeaps();
        due("20: asked first, above", first.bestOdds(14, 8, 1, 0), 1);
        due("20: asked first, another", first.bestOdds(14, 2, 1, 0), 0);
        due("20: cell", x.bestOdds(36, 0, 1, 0), NO);
        due("20: other", x.bestOdds(0, -1, 1, 0), NO);
        due("20: n 0", x.bestOdds(0, 0, 0, 0), NO);
        due("20: n 4", x.bestOdds(0, 0, 4, 0), NO);
        due("20: part -1", x.bestOdds(0, 0, 1, -1), NO);
        due("20: part 2", x.bestOdds(0, 0, 1, 2), NO);
        due("20: THE WALK stays", x.count(2), 0);
    }

    private static void p21Safe() {
        MistHeaps x = new MistHeaps();
        due("21: nowhere over", x.safe(14, 1, 0), 0);
        x.edges(cells(7, 8, 9, 13, 15, 19, 20));
        due("21: the one that is left", x.safe(14, 1, 0), 3);
        x.edges(cells(7, 8, 9, 13, 19, 20, 21));
        due("21: two, first", x.safe(14, 2, 0), 2);
        due("21: two, second", x.safe(14, 2, 1), 1);
        due("21: three, third", x.safe(14, 3, 2), 0);
        x.edges(cells(7, 8, 9, 13, 15, 19, 20, 21));
        due("21: none is better", x.safe(14, 3, 0), 0);
        x.edges(cells(14));
        due("21: over at once", x.safe(14, 2, 1), 0);
        MistHeaps drifts = Checks.withHill("drift 5 h=99");
        drifts.edges(cells(8, 21));
        due("21: least likely over", drifts.safe(14, 1, 0), 5);
        drifts.edges(cells(7, 8, 9, 15, 19, 20, 21));
        due("21: half of the times", drifts.safe(14, 1, 0), 6);
        due("21: cell -1", x.safe(-1, 1, 0), NONE);
        due("21: cell 36 ahead of n", x.safe(36, 0, 0), NONE);
        due("21: k -1", x.safe(0, 1, -1), NONE);
        due("21: k 3 ahead of n", x.safe(0, 4, 3), NONE);
        due("21: n 0", x.safe(0, 0, 0), BAD);
        due("21: n 4", x.safe(0, 4, 2), BAD);
        due("21: k is n", x.safe(0, 2, 2), NONE);
        due("21: k is below n", x.safe(0, 3, 2), 0);
    }

    private static void p22Line() {
        MistHeaps x = sight(2, 0, 1, 3, 35);
        int[] due = {0, 2, 6, 14, 14, 14, 14, 14, 14};
        for (int n = 1; n <= 9; n++) due("22: " + n + " people", x.line(0, n), due[n - 1]);
        due("22: from another", x.line(2, 2), 2);
        due("22: the first one counts too", x.line(1, 2), 5);
        due("22: line(4, 1)", x.line(4, 1), NONE);
        due("22: line(-1, 1)", x.line(-1, 1), NONE);
        due("22: NONE ahead of BAD", x.line(4, 0), NONE);
        due("22: line(0, 0)", x.line(0, 0), BAD);
        due("22: line(0, 10)", x.line(0, 10), BAD);
        x.set(0, 1);
        due("22: MIST 1, 2 people", x.line(0, 2), 2);
        due("22: MIST 1, 3 people", x.line(0, 3), 2);
        due("22: MIST 1, 4 people", x.line(0, 4), 6);
        x.set(0, 2);
        due("22: MIST 2", x.line(0, 9), 0);
        x.set(0, 9);
        due("22: MIST 9", x.line(0, 9), 0);
        MistHeaps far = heaps(Checks.withHill("sight 99;hide 99 h<9"), 0, 35);
        due("22: REACH is nothing to it", far.line(0, 2), 2);
        due("22: without a hill", heaps(new MistHeaps(), 0, 3, 4).line(0, 2), 2);
    }

    private static int next(int a, int b, int c) {
        // One HEAP each, so cells that are the same share it.
        MistHeaps x = new MistHeaps();
        int[] numbers = new int[3];
        int[] cells = {a, b, c};
        for (int i = 0; i < 3; i++) {
            int made = x.heap(0, 0, cells[i]);
            numbers[i] = made;
            for (int j = 0; j < i; j++) numbers[i] = cells[j] == cells[i] ? numbers[j] : numbers[i];
        }
        return x.next(numbers[0], numbers[1], numbers[2]);
    }

    private static void p23Next() {
        due("23: straight on", next(0, 7, 14), 21);
        due("23: along a row", next(0, 1, 2), 3);
        due("23: down a column", next(0, 6, 12), 18);
        due("23: as squares grow", next(0, 7, 8), 3);
        due("23: one HEAP", next(9, 9, 9), 9);
        due("23: back to the first", next(9, 14, 14), 9);
        due("23: column beyond", next(0, 1, 3), NOWHERE);
        due("23: column less than any", next(2, 1, 0), NOWHERE);
        due("23: row beyond", next(0, 6, 18), NOWHERE);
        due("23: row less than any", next(12, 6, 0), NOWHERE);
        due("23: to the last CELL", next(17, 9, 15), 35);
        MistHeaps x = heaps(new MistHeaps(), 0, 7, 14);
        due("23: next(3, 0, 0)", x.next(3, 0, 0), NONE);
        due("23: next(0, 3, 0)", x.next(0, 3, 0), NONE);
        due("23: next(0, 0, 3)", x.next(0, 0, 3), NONE);
        due("23: next(-1, 0, 0)", x.next(-1, 0, 0), NONE);
        due("23: next(0, -1, 0)", x.next(0, -1, 0), NONE);
        due("23: next(0, 0, -1)", x.next(0, 0, -1), NONE);
    }

    private static void p24Book() {
        MistHeaps x = new MistHeaps();
        due("24: no HEAP", x.book(0), NONE);
        due("24: empty then", x.book(-1), 0);
        heaps(x, 0, 1);
        due("24: book(2)", x.book(2), NONE);
        due("24: book(-2)", x.book(-2), NONE);
        for (int many = 1; many <= 12; many++) due("24: book", x.book(many % 2), many);
        due("24: FULL", x.book(0), FULL);
        due("24: NONE ahead of FULL", x.book(2), NONE);
        due("24: twelve", x.count(3), 12);
        due("24: all are goings", x.looked(), NOWHERE);
        due("24: empty again", x.book(-1), 0);
        due("24: none", x.count(3), 0);
        due("24: first", x.book(1), 1);
    }

    private static void p25Looked() {
        MistHeaps x = sight(1, 0, 1, 2, 3);
        due("25: empty", looked(x), NOWHERE);
        due("25: one", looked(x, 2), NOWHERE);
        due("25: along", looked(x, 0, 1, 2, 3, 2, 1, 0), NOWHERE);
        due("25: too far", looked(x, 0, 1, 3), 3);
        due("25: the first of two", looked(x, 1, 2, 0, 3), 0);
        due("25: at the end", looked(x, 0, 1, 2, 3, 2, 1, 2, 1, 2, 1, 0, 2), 2);
        due("25: to itself one goes not", looked(x, 1, 1), 1);
        due("25: fine", looked(x, 0, 1, 2), NOWHERE);
        x.set(0, 1);
        due("25: in MIST", x.looked(), 1);
        MistHeaps closed = sight(1, 0);
        closed.heap(3, 0, 1);
        heaps(closed, 2);
        due("25: to a FALSE one", looked(closed, 0, 1), NOWHERE);
        due("25: from a FALSE one", looked(closed, 0, 1, 2), 2);
    }

    private static void p26Act() {
        MistHeaps x = ofAllKinds();
        act(x, 0, 0, 10, 10, 1);
        act(x, 0, 1, 10, 9, 2, 1);
        act(x, 0, 2, 10, 18, 3, 2, 1);
        act(x, 1, 0, 10, 31, 11, 1);
        act(x, 1, 1, 10, 29, 2, 11, 1);
        act(x, 1, 2, 10, 58, 3, 2, 11, 1);
        act(x, 2, 0, 10, 12, 1);
        act(x, 2, 1, 10, -9, 21, 2, 1);
        act(x, 2, 2, 10, -18, 3, 21, 2, 1);
        act(x, 3, 0, 10, 13, 1);
        act(x, 3, 1, 10, 9, 2, 1);
        act(x, 3, 2, 10, 21, 31, 3, 2, 1);
        act(x, 4, 0, 10, 34, 11, 1);
        act(x, 4, 1, 10, 29, 2, 11, 1);
        act(x, 4, 2, 10, 62, 41, 3, 2, 11, 1, 11, 1);
        act(x, 5, 0, 10, 10, 51, 1);
        act(x, 5, 1, 10, -4, 21, 2, 51, 1);
        act(x, 5, 2, 10, -8, 3, 21, 2, 51, 1);
        act(x, 6, 0, 10, 16, 1);
        act(x, 6, 1, 10, 16, 61, 2, 1);
        act(x, 6, 2, 10, 39, 31, 3, 61, 2, 1);
        act(x, 1, 0, Integer.MAX_VALUE, 2147483646, 11, 1);
        act(x, 2, 0, Integer.MAX_VALUE, Integer.MIN_VALUE + 1, 1);
        act(x, 0, 2, Integer.MIN_VALUE, -2, 3, 2, 1);
        act(x, 7, 0, 10, 0);
        act(x, 0, 0, 1, 1, 1);
        act(x, -1, 0, 10, 0);
        act(x, 0, 0, 1, 1, 1);
        act(x, 0, 3, 10, 0);
        act(x, 0, 0, 1, 1, 1);
        act(x, 0, -1, 10, 0);
    }

    private static void p27Trace() {
        MistHeaps x = ofAllKinds();
        due("27: none yet", x.trace(0), NONE);
        x.act(4, 2, 1);
        due("27: trace(-1)", x.trace(-1), NONE);
        due("27: trace(0)", x.trace(0), 41);
        due("27: trace(6)", x.trace(6), 1);
        due("27: trace(7)", x.trace(7), NONE);
        due("27: trace(20)", x.trace(20), NONE);
        x.act(0, 0, 1);
        due("27: of the latest alone", x.trace(1), NONE);
    }

    private static void p28As() {
        MistHeaps x = ofAllKinds();
        String[] due = {"1------", "22-----", "3-3----", "4--4---", "55--5--", "6-6--6-", "7--7--7"};
        for (int heap = 0; heap <= 6; heap++) {
            for (int k = 0; k <= 6; k++) {
                char want = due[heap].charAt(k);
                due("28: as(" + heap + ", " + k + ")", x.as(heap, k), want == '-' ? -6 : want - '0');
            }
        }
        due("28: as(7, 0)", x.as(7, 0), NONE);
        due("28: as(-1, 0)", x.as(-1, 0), NONE);
        due("28: as(0, 7)", x.as(0, 7), NONE);
        due("28: as(0, -1)", x.as(0, -1), NONE);
    }

    private static void p29Image() {
        MistHeaps x = new MistHeaps();
        due("29: of nothing", x.image(), 0);
        heaps(x, 3, 4);
        due("29: of two", x.image(), 2);
        due("29: there they are", x.count(0), 2);
        heaps(x, 5);
        due("29: the newer image", x.undo(), 2);
        due("29: and once more", x.undo(), 2);
    }

    private static void p30Undo() {
        MistHeaps x = new MistHeaps();
        due("30: no image", x.undo(), STATE);
        Checks.hill(x, "sight 4;drift 2 r=0");
        x.heap(4, 5, 6);
        x.edges(cells(1, 2, 3));
        x.set(0, 1);
        x.set(1, 2);
        walks(x, 2, 3);
        x.book(0);
        Checks.feed(x, "sig");
        due("30: image", x.image(), 1);
        Checks.feed(x, "x");
        Checks.hill(x, "");
        Checks.hill(x, "sight 9");
        x.heap(1, 2, 3);
        x.edges(0);
        x.set(0, 8);
        x.set(1, 7);
        x.walk(-1);
        walks(x, 6, 6, 6);
        x.book(-1);
        x.book(1);
        x.book(1);
        x.act(1, 0, 1);
        Checks.feed(x, "abcdefg");
        for (int again = 0; again < 2; again++) {
            due("30: undo", x.undo(), 1);
            due("30: HEAPS", x.count(0), 1);
            due("30: no HEAP 1", x.of(1, 0), NONE);
            due("30: KIND", x.of(0, 0), 4);
            due("30: HILLS", x.count(1), 1);
            due("30: WAYS", x.count(2), 2);
            due("30: BOOK", x.count(3), 1);
            due("30: TAPE", x.count(4), 3);
            due("30: THE TRACE stays", x.count(5), 2);
            due("30: its first body", x.trace(0), 11);
            due("30: MIST", x.told(0), 1);
            due("30: SNOW", x.told(1), 2);
            due("30: sight", x.told(2), 4);
            due("30: EDGES", x.told(3), 3);
            due("30: drift", x.drift(0), 2);
            due("30: WALK", x.odds(12, 20, 0), 1);
            due("30: EDGE", x.odds(1, 40, 0), 1);
            due("30: a new HEAP", x.heap(0, 0, 3), 1);
            due("30: the BOOK's HEAP", x.book(1), 2);
            due("30: TURNING, a row more and a column less", x.looked(), 1);
            due("30: the tape's signs", Checks.hill(x, "ht 7"), 1);
            due("30: the new hill", x.told(2), 7);
            x.set(0, 9);
            x.walk(-1);
            x.edges(ALL);
        }
        MistHeaps booked = sight(1, 0, 1, 2);
        booked.book(0);
        booked.book(1);
        booked.image();
        due("30: another BOOK", looked(booked, 2, 0), 0);
        booked.undo();
        due("30: the BOOK as it was", booked.looked(), NOWHERE);
        MistHeaps full = sight(1);
        full.image();
        for (int i = 1; i < 5; i++) due("30: hills", Checks.hill(full, "sight " + i), i);
        due("30: full", Checks.hill(full, "sight 9"), FULL);
        due("30: none", full.undo(), 0);
        due("30: the number is free again", Checks.hill(full, "sight 8"), 1);
        due("30: and holds", full.told(2), 8);
        full.undo();
        due("30: the first holds again", full.told(2), 1);
    }

    private static void p31Count() {
        MistHeaps x = Checks.withHill("sight 1");
        Checks.hill(x, "sight 2");
        heaps(x, 1, 2, 3);
        walks(x, 0, 1, 2, 3);
        for (int i = 0; i < 5; i++) x.book(0);
        Checks.feed(x, "sixsix");
        x.act(0, 2, 0);
        due("31: HEAPS", x.count(0), 3);
        due("31: HILLS", x.count(1), 2);
        due("31: WAYS", x.count(2), 4);
        due("31: BOOK", x.count(3), 5);
        due("31: signs", x.count(4), 6);
        due("31: bodies", x.count(5), 3);
        due("31: count(6)", x.count(6), NONE);
        due("31: count(-1)", x.count(-1), NONE);
    }
}
