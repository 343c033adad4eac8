/** The terms from the tape and what is a hill to how far a heap is seen. */
final class HillSentences extends Given {
    private static final String SECOND_DIGIT = "if (number > 0 && isDigit(sign()))";

    static void tell(Sentences to) {
        form(to);
        expressions(to);
        faults(to);
        reach(to);
    }

    private static void form(Sentences to) {
        to.say("A HILL is read from THE TAPE (bytes, 100 at most):", HillSentences::tapeOf100,
            "MOST_SIGNS = 100", "MOST_SIGNS = 99",
            "MOST_SIGNS = 100", "MOST_SIGNS = 101",
            "blank.read(scene.tape, scene.tapeSize)", "blank.read(scene.tape, scene.tapeSize - 1)");
        to.say("CLAUSES, 10 at most,", HillSentences::tenClauses,
            "MOST_CLAUSES = 10", "MOST_CLAUSES = 9",
            "MOST_CLAUSES = 10", "MOST_CLAUSES = 11",
            "return at - 1;", "return at;");
        to.say("with ; between:", HillSentences::between,
            "if (!readSign(';')) return at;", "if (!readSign(',')) return at;",
            "if (!readSign(';')) return at;", "readSign(';');",
            "if (!readSign(';')) return at;", "if (!readSign(';')) return at;\n                if (at == size) return NONE;");
        to.say("see n E;", HillSentences::see,
            "return \"see \";", "return \"sea \";",
            "hill.total(Hill.SEE, facts)", "hill.total(Hill.DRIFT, facts)");
        to.say("hide n E;", HillSentences::hide,
            "return \"hide \";", "return \"hid \";",
            "- hill.total(Hill.HIDE, facts)", "+ hill.total(Hill.HIDE, facts)");
        to.say("sight n;", HillSentences::sightN,
            "return \"sight \";", "return \"sights \";",
            "if (word == SIGHT) sight = number;\n                else if", "if (word == SIGHT) sight = number;\n                if");
        to.say("drift n E", HillSentences::driftN,
            "return \"drift \";", "return \"drifts \";",
            "hill.total(Hill.DRIFT, facts)", "hill.total(Hill.SEE, facts)");
        to.say("(one blank ahead of each part behind the word;", HillSentences::oneBlank,
            "else if (!readSign(' ') ||", "else if (readSign(' ') && false ||",
            "else if (!readSign(' ') ||", "else if (!readSign(' ') || readSign(' ') && false ||",
            "int word = readWord();", "int word = readWord();\n                readSign(' ');");
        to.say("n 1 or 2 digits, no 0 ahead of another).", HillSentences::digits,
            SECOND_DIGIT, "if (isDigit(sign()))",
            SECOND_DIGIT, "while (number > 0 && isDigit(sign()))",
            SECOND_DIGIT, "if (number > 9 && isDigit(sign()))",
            "sign >= '0' && sign <= '9'", "sign > '0' && sign <= '9'",
            "sign >= '0' && sign <= '9'", "sign >= '0' && sign < '9'",
            "sign >= '0' && sign <= '9'", "sign >= '/' && sign <= '9'",
            "sign >= '0' && sign <= '9'", "sign >= '0' && sign <= ':'");
    }

    private static void expressions(Sentences to) {
        to.say("E: T, or T|E.", HillSentences::either,
            "readSign('|')", "readSign('+')",
            "turn < size && readSign('|')", "turn < 1 && readSign('|')",
            "pile = pile >> 1 | pile & 1;", "pile = pile >> 1 & (pile | ~1);",
            "pile = pile >> 1 | pile & 1;", "pile = pile >> 1 ^ pile & 1;");
        to.say("T: F, or F&T.", HillSentences::both,
            "readSign('&')", "readSign('*')",
            "turn < size && readSign('&')", "turn < 1 && readSign('&')",
            "pile = pile >> 1 & (pile | ~1);", "pile = pile >> 1 | pile & 1;",
            "if (!readBoth(open)) return false;\n            for", "if (!readPlain(open)) return false;\n            for");
        to.say("F: !F, (E), or a TEST:", HillSentences::plain,
            "if (one == NOT) pile ^= 1;", "if (one == NOT) pile ^= 0;",
            "if (one == NOT) pile ^= 1;", "if (one == NOT) pile = ~pile;",
            "readEither(open + 1) && readSign(')')", "readEither(open + 1)",
            "readEither(open + 1) && readSign(')')", "readBoth(open + 1) && readSign(')')",
            "if (!readPlain(open + 1)) return false;", "if (!readBoth(open + 1)) return false;",
            "if (!readPlain(open + 1)) return false;", "if (!readTest()) return false;");
        to.say("h or k or r or c or m or s,", HillSentences::letters,
            "\"hkrcms\"", "\"hkrcm\"",
            "\"hkrcms\"", "\"hkrcmsz\"",
            "\"hkrcms\"", "\"khrcms\"");
        to.say("one of < = >,", HillSentences::relations,
            "\"<=>\"", "\"<=\"",
            "\"<=>\"", "\"<=>!\"",
            "return fact < with;", "return fact <= with;",
            "return fact == with;", "return fact >= with;",
            "return fact == with;", "return fact <= with;",
            "return fact > with;", "return fact >= with;");
        to.say("a number likewise:", HillSentences::numberLikewise,
            SECOND_DIGIT, "if (isDigit(sign()))",
            SECOND_DIGIT, "while (number > 0 && isDigit(sign()))",
            SECOND_DIGIT, "if (number > 9 && isDigit(sign()))",
            "relation * 100 + number)", "relation * 100 + number % 10)",
            "facts[test / 300]", "facts[test / 301]",
            "facts[test / 300]", "facts[test / 299]",
            "if (!readNumber()) return false;", "readNumber();");
        to.say("of a HEAP h its number,", HillSentences::ofNumber,
            "facts[0] = number;", "facts[0] = kind;");
        to.say("k its KIND,", HillSentences::ofKind,
            "facts[1] = kind;", "facts[1] = number;",
            "facts[1] = kind;", "facts[1] = kind > 3 ? kind - 3 : kind;");
        to.say("r the row of its CELL,", HillSentences::ofRow,
            "facts[2] = rowOf(cell);", "facts[2] = columnOf(cell);",
            "facts[2] = rowOf(cell);", "facts[2] = rowOf(cell) + 1;");
        to.say("c the column,", HillSentences::ofColumn,
            "facts[3] = columnOf(cell);", "facts[3] = rowOf(cell);",
            "facts[3] = columnOf(cell);", "facts[3] = cell;");
        to.say("m MIST,", HillSentences::ofMist,
            "facts[4] = mist;", "facts[4] = withSnow;");
        to.say("s SNOW", HillSentences::ofSnow,
            "facts[5] = withSnow;", "facts[5] = mist;");
        to.say("(of drift: h, k: 99; r, c of the CELL where one is).", HillSentences::ofDrift,
            "NOT_OF_HEAPS = 99", "NOT_OF_HEAPS = 98",
            "tellFacts(NOT_OF_HEAPS, NOT_OF_HEAPS, cell, snow)", "tellFacts(0, NOT_OF_HEAPS, cell, snow)",
            "tellFacts(NOT_OF_HEAPS, NOT_OF_HEAPS, cell, snow)", "tellFacts(NOT_OF_HEAPS, 0, cell, snow)",
            "tellFacts(NOT_OF_HEAPS, NOT_OF_HEAPS, cell, snow)", "tellFacts(NOT_OF_HEAPS, NOT_OF_HEAPS, 0, snow)");
    }

    private static void faults(Sentences to) {
        to.say("At most 5 of ! and ( are open (a ( till its ) , a ! till its F ends).", HillSentences::open,
            "MOST_OPEN = 5", "MOST_OPEN = 4",
            "MOST_OPEN = 5", "MOST_OPEN = 6",
            "readEither(open + 1)", "readEither(open)",
            "readPlain(open + 1)", "readPlain(open)",
            "if (!readPlain(open)) return false;\n                code(AND);", "if (!readPlain(open + 1)) return false;\n                code(AND);",
            "if (!readBoth(open)) return false;\n                code(OR);", "if (!readBoth(open + 1)) return false;\n                code(OR);");
        to.say("FAULT: the place of the first byte with which no HILL can go on", HillSentences::firstByte,
            "return FAULTY - fault;", "return FAULTY - fault - 1;",
            "at += farthest;", "",
            "farthest = Math.max(farthest, same);", "farthest = same;",
            "at++;\n            int relation", "int relation",
            "if (open >= MOST_OPEN) return false;\n            at++;", "at++;\n            if (open >= MOST_OPEN) return false;");
        to.say("(the size, if it ends too early).", HillSentences::endsTooEarly,
            "&& at + same < size && ", "&& ",
            "return at < size ? tape[at] : 0;", "return at < MOST_SIGNS ? tape[at] : 0;",
            "return FAULTY - fault;", "return FAULTY - Math.min(fault, 20);");
        to.say("HILLS are numbered from 0 on,", HillSentences::hillNumbers,
            "return scene.hills - 1;", "return scene.hills;",
            "if (fault != NONE) return FAULTY - fault;", "if (fault != NONE) scene.hills++;\n        if (fault != NONE) return FAULTY - fault;");
        to.say("5 at most;", HillSentences::fiveAtMost,
            "MOST_HILLS = 5", "MOST_HILLS = 4",
            "MOST_HILLS = 5", "MOST_HILLS = 6");
        to.say("the newest one holds;", HillSentences::newestHolds,
            "scene.hill = blank;", "if (scene.hills == 0) scene.hill = blank;",
            "coded = 0;", "");
        to.say("without one there are no CLAUSES.", HillSentences::noClauses,
            "int sight = SIGHT_WITHOUT;", "int sight;",
            "Math.min(MOST_DRIFT, hill.total(Hill.DRIFT, facts))", "hills == 0 ? 1 : Math.min(MOST_DRIFT, hill.total(Hill.DRIFT, facts))");
        to.say("sight (3 without): the last n.", HillSentences::lastSight,
            "SIGHT_WITHOUT = 3", "SIGHT_WITHOUT = 2",
            "if (word == SIGHT) sight = number;", "if (word == SIGHT) sight = Math.max(sight, number);",
            "if (word == SIGHT) sight = number;", "if (word == SIGHT && clause == 0) sight = number;\n                else if (word == SIGHT) sight += 0;",
            "coded = 0;\n            sight = SIGHT_WITHOUT;", "coded = 0;");
        to.say("DRIFT on a CELL: the n of all drift whose E holds, together,", HillSentences::driftTogether,
            "words[clause] == word && ", "",
            " && holds(clause, facts)", "",
            "sum += amounts[clause];", "sum = amounts[clause];",
            "sum += amounts[clause];", "sum = Math.max(sum, amounts[clause]);");
        to.say("5 at most.", HillSentences::driftFiveAtMost,
            "MOST_DRIFT = 5", "MOST_DRIFT = 4",
            "MOST_DRIFT = 5", "MOST_DRIFT = 6",
            "Math.min(MOST_DRIFT, hill.total(Hill.DRIFT, facts))", "hill.total(Hill.DRIFT, facts) % (MOST_DRIFT + 1)");
    }

    private static void reach(Sentences to) {
        to.say("REACH of a HEAP: sight, and the n of all see whose E holds, less those of all hide, less MIST;",
            HillSentences::plainReach,
            "int plain = hill.sight + ", "int plain = ",
            "hill.sight + hill.total(Hill.SEE, facts) -", "hill.sight -",
            " - hill.total(Hill.HIDE, facts) - mist;", " - mist;",
            " - hill.total(Hill.HIDE, facts) - mist;", " - hill.total(Hill.HIDE, facts);",
            " - hill.total(Hill.HIDE, facts) - mist;", " - hill.total(Hill.HIDE, facts) - snow;",
            "hill.total(Hill.SEE, facts) - hill.total(Hill.HIDE, facts)", "Math.max(0, hill.total(Hill.SEE, facts) - hill.total(Hill.HIDE, facts))");
        to.say("HIGH, TURNING: and v by 3 (cut);", HillSentences::highReach,
            "plain + v / 3", "plain + (v + 1) / 3",
            "plain + v / 3", "plain + v / 4",
            "plain + v / 3", "plain + v",
            "super.reachBy(plain + v / 3, snow)", "super.reachBy(plain, snow) + v / 3",
            "super.reachBy(plain + v / 3, snow)", "super.reachBy(plain + (kind == 1 ? v / 3 : 0), snow)");
        to.say("LOW, SNOWED: less 1;", HillSentences::lowReach,
            "plain - 1,", "plain,",
            "plain - 1,", "plain - 2,",
            "plain - 1,", "plain - (kind == 2 ? 1 : 0),");
        to.say("0 at least;", HillSentences::noLessThan0,
            "return Math.max(0, plain);", "return plain;",
            "return Math.max(0, plain);", "return Math.max(1, plain);",
            "return Math.max(0, plain);", "return Math.abs(plain);");
        to.say("SNOWED: but 0, if SNOW is above v;", HillSentences::snowed,
            "return snow > v ? 0", "return snow >= v ? 0",
            "return snow > v ? 0", "return snow > v + 1 ? 0",
            "return snow > v ? 0", "return snow > v ? 1");
        to.say("OLD: but 1 at most.", HillSentences::old,
            "Math.min(1, super.reachBy(plain, snow))", "Math.min(2, super.reachBy(plain, snow))",
            "Math.min(1, super.reachBy(plain, snow))", "Math.min(0, super.reachBy(plain, snow))",
            "Math.min(1, super.reachBy(plain, snow))", "1");
        to.say("It is SEEN from a CELL, if it is no farther APART from that than REACH.", HillSentences::seen,
            "apart(cell, scene.heaps[i].cell) <= reach[i]", "apart(cell, scene.heaps[i].cell) < reach[i]",
            "apart(cell, scene.heaps[i].cell) <= reach[i]", "apart(cell, scene.heaps[i].cell) <= reach[i] + 1",
            "apart(cell, scene.heaps[i].cell) <= reach[i]", "apart(cell, scene.heaps[i].cell) <= reach[0]");
    }

    private static void tapeOf100() {
        String ahead = "see 10 h=10" + "|h=10".repeat(17) + "|h=";
        due("so many signs", ahead.length(), 99);
        MistHeaps x = new MistHeaps();
        Checks.feed(x, ahead);
        due("the last sign that there can be", x.feed('7'), 100);
        due("one too many", x.feed('7'), FULL);
        due("there are", x.count(4), 100);
        due("all are a HILL", x.hill(), 0);
        heaps(x, 0, 1, 2, 3, 4, 5, 6, 7);
        due("the last sign too", x.of(7, 3), 13);
        due("and that alone", x.of(6, 3), 3);
        fault(ahead + "x", 99);
    }

    private static void tenClauses() {
        MistHeaps x = heaps(Checks.withHill("see 1 h=0" + ";see 1 h=0".repeat(9)), 0);
        due("all ten hold", x.of(0, 3), 13);
        String ten = "sight 1" + ";sight 1".repeat(9);
        fault(ten, -1);
        fault(ten + ";", 79);
        fault(ten + ";sight 1", 79);
        fault(ten + ";see 1 h=0", 79);
    }

    private static void between() {
        MistHeaps x = Checks.withHill("sight 1;sight 2;see 3 h=0");
        heaps(x, 0);
        due("both are read", x.of(0, 3), 5);
        fault("sight 1,sight 2", 7);
        fault("sight 1 sight 2", 7);
        fault("see 1 h=0see 1 h=0", 9);
        fault("see 1 h=0:see 1 h=0", 9);
        fault(";sight 1", 0);
        fault("sight 1;", 8);
        fault("sight 1;;sight 1", 8);
        fault(";", 0);
    }

    private static void see() {
        MistHeaps x = heaps(Checks.withHill("see 4 h=0"), 0, 1);
        due("whose E holds", x.of(0, 3), 7);
        due("whose E holds not", x.of(1, 3), 3);
        fault("see 4", 5);
        fault("see h=0", 4);
        fault("see", 3);
        fault("se 4 h=0", 2);
        fault("sees 4 h=0", 3);
    }

    private static void hide() {
        MistHeaps x = heaps(Checks.withHill("hide 2 h=0"), 0, 1);
        due("whose E holds", x.of(0, 3), 1);
        due("whose E holds not", x.of(1, 3), 3);
        fault("hide 2", 6);
        fault("hide h=0", 5);
        fault("hide", 4);
        fault("hid 2 h=0", 3);
        fault("hides 2 h=0", 4);
    }

    private static void sightN() {
        due("sight", Checks.withHill("sight 7").told(2), 7);
        fault("sight 7 h=0", 7);
        fault("sight h=0", 6);
        fault("sight", 5);
        fault("sigh 7", 4);
        fault("sights 7", 5);
    }

    private static void driftN() {
        MistHeaps x = Checks.withHill("drift 2 c=0");
        due("whose E holds", x.drift(6), 2);
        due("whose E holds not", x.drift(7), 0);
        fault("drift 2", 7);
        fault("drift c=0", 6);
        fault("drift", 5);
        fault("drif 2 c=0", 4);
        fault("drifts 2 c=0", 5);
    }

    private static void oneBlank() {
        fault("see1 h=0", 3);
        fault("see  1 h=0", 4);
        fault("see 1h=0", 5);
        fault("see 1  h=0", 6);
        fault("hide1 h=0", 4);
        fault("hide  1 h=0", 5);
        fault("hide 1(h=0)", 6);
        fault("sight1", 5);
        fault("sight  1", 6);
        fault("drift1 h=0", 5);
        fault("drift  1 h=0", 6);
        fault("drift 1!h=0", 7);
        fault(" sight 1", 0);
        fault("sight 1 ", 7);
        fault("sight 1 ;sight 1", 7);
        fault("sight 1; sight 1", 8);
        fault("see 1 h =0", 7);
        fault("see 1 h= 0", 8);
        fault("see 1 h=0 ", 9);
        fault("see 1 h=0 |h=0", 9);
        fault("see 1 h=0| h=0", 10);
        fault("see 1 ( h=0)", 7);
        fault("see\t1 h=0", 3);
    }

    private static void digits() {
        int[] good = {0, 1, 9, 10, 90, 99};
        for (int n : good) due("sight " + n, Checks.withHill("sight " + n).told(2), n);
        fault("sight 00", 7);
        fault("sight 01", 7);
        fault("sight 09", 7);
        fault("sight 100", 8);
        fault("sight 999", 8);
        fault("sight ", 6);
        fault("sight /", 6);
        fault("sight :", 6);
        fault("sight 1/", 7);
        fault("sight 1:", 7);
        fault("sight -1", 6);
        fault("see 00 h=0", 5);
        fault("hide 07 h=0", 6);
        fault("drift 123 h=0", 8);
        MistHeaps x = heaps(Checks.withHill("see 40 h=0"), 0);
        due("see 40", x.of(0, 3), 43);
    }

    private static void either() {
        holds("h=2", true);
        holds("h=2|h=0", true);
        holds("h=0|h=2", true);
        holds("h=2|k=1", true);
        holds("h=0|h=1", false);
        holds("h=0|h=1|h=2", true);
        holds("h=0|h=1|h=3", false);
        fault("see 1 h=1|", 10);
        fault("see 1 |h=1", 6);
        fault("see 1 h=1||h=1", 10);
        fault("see 1 h=1+h=1", 9);
    }

    private static void both() {
        holds("h=2&k=1", true);
        holds("h=2&k=0", false);
        holds("h=0&k=1", false);
        holds("h=0&k=0", false);
        holds("h=2&k=1&r=3", true);
        holds("h=2&k=1&r=0", false);
        // A & holds together what a | parts.
        holds("h=2|h=0&h=0", true);
        holds("h=0&h=0|h=2", true);
        holds("h=2|h=2&h=0", true);
        fault("see 1 h=1&", 10);
        fault("see 1 &h=1", 6);
        fault("see 1 h=1&&h=1", 10);
        fault("see 1 h=1&|h=1", 10);
        fault("see 1 h=1*h=1", 9);
    }

    private static void plain() {
        holds("!h=2", false);
        holds("!h=0", true);
        holds("!!h=2", true);
        holds("h=0|!h=0", true);
        holds("h=0&!h=0", false);
        holds("h=2|!h=2", true);
        holds("!h=2&h=0|h=2", true);
        holds("!h=0&h=0", false);
        holds("!h=2|h=2", true);
        holds("(h=2)", true);
        holds("(h=0)", false);
        holds("(h=2|h=0)&h=0", false);
        holds("h=0&(h=0|h=2)", false);
        holds("!(h=2|h=0)", false);
        holds("!(h=0&h=2)", true);
        holds("(!(h=0))", true);
        fault("see 1 !", 7);
        fault("see 1 !&h=0", 7);
        fault("see 1 h=0!", 9);
        fault("see 1 ()", 7);
        fault("see 1 (h=0", 10);
        fault("see 1 h=0)", 9);
        fault("see 1 (h=0))", 11);
        fault("see 1 (h=0)(h=0)", 11);
    }

    private static void letters() {
        for (int sign = 0; sign < 128; sign++) {
            if (sign == '!' || sign == '(') continue;
            fault("see 1 " + (char) sign + "=0", "hkrcms".indexOf(sign) >= 0 ? -1 : 6);
        }
        holds("h=2", true);
        holds("k=1", true);
    }

    private static void relations() {
        for (int sign = 0; sign < 128; sign++) {
            fault("see 1 h" + (char) sign + "0", "<=>".indexOf(sign) >= 0 ? -1 : 7);
        }
        holds("c<3", false);
        holds("c<4", false);
        holds("c<5", true);
        holds("c=3", false);
        holds("c=4", true);
        holds("c=5", false);
        holds("c>3", true);
        holds("c>4", false);
        holds("c>5", false);
    }

    private static void numberLikewise() {
        holds("h<0", false);
        holds("h<9", true);
        holds("h<10", true);
        holds("h>90", false);
        holds("h<99", true);
        for (char fact : "hkrcms".toCharArray()) {
            holds(fact + "<0", false);
            holds(fact + "<1", false);
            holds(fact + "<99", true);
            holds(fact + "=99", false);
            holds(fact + ">99", false);
            holds(fact + ">0", true);
        }
        MistHeaps x = heaps(Checks.withHill("see 10 s<1"), 0);
        x.set(1, 3);
        due("SNOW 3 with MIST 0, see 10 s<1", x.of(0, 3), 3);
        fault("see 1 h=00", 9);
        fault("see 1 h=02", 9);
        fault("see 1 h=100", 10);
        fault("see 1 h=", 8);
        fault("see 1 h=x", 8);
        fault("see 1 h=-1", 8);
        fault("see 1 h=k", 8);
    }

    private static void ofNumber() {
        for (int n = 0; n <= 9; n++) holds("h=" + n, n == 2);
    }

    private static void ofKind() {
        for (int n = 0; n <= 9; n++) holds("k=" + n, n == 1);
        MistHeaps x = Checks.withHill("see 10 k=4");
        x.heap(1, 0, 0);
        x.heap(4, 0, 1);
        due("of one of the KIND", x.of(1, 3), 13);
        due("not of one above", x.of(0, 3), 3);
        Checks.hill(x, "see 10 k=1");
        due("not of one under it", x.of(1, 3), 3);
    }

    private static void ofRow() {
        for (int n = 0; n <= 9; n++) holds("r=" + n, n == 3);
        MistHeaps x = heaps(Checks.withHill("see 10 r=0;see 20 r=5"), 0, 5, 30, 35);
        due("the first row", x.of(1, 3), 13);
        due("the last row", x.of(2, 3), 23);
    }

    private static void ofColumn() {
        for (int n = 0; n <= 9; n++) holds("c=" + n, n == 4);
        MistHeaps x = heaps(Checks.withHill("see 10 c=0;see 20 c=5"), 0, 5, 30, 35);
        due("the last column", x.of(1, 3), 23);
        due("the first column", x.of(2, 3), 13);
    }

    private static void ofMist() {
        for (int n = 0; n <= 9; n++) holds("m=" + n, n == 5);
    }

    private static void ofSnow() {
        for (int n = 0; n <= 9; n++) holds("s=" + n, n == 6);
    }

    private static void ofDrift() {
        MistHeaps x = heaps(Checks.withHill("drift 1 h=99&k=99;drift 2 r=2;drift 1 c=3;drift 5 h<99|k<99"), 15);
        due("on a HEAP's CELL", x.drift(15), 4);
        due("in that row", x.drift(12), 3);
        due("in that column", x.drift(33), 2);
        due("in neither", x.drift(35), 1);
        due("on the first CELL", x.drift(0), 1);
        MistHeaps weather = Checks.withHill("drift 1 m=2;drift 3 s=4");
        weather.set(0, 2);
        due("MIST", weather.drift(0), 1);
        weather.set(1, 4);
        due("and SNOW", weather.drift(0), 4);
    }

    private static void open() {
        fault("see 1 !!!!!h=0", -1);
        fault("see 1 !!!!!!h=0", 11);
        fault("see 1 (((((h=0)))))", -1);
        fault("see 1 ((((((h=0))))))", 11);
        fault("see 1 !(!(!h=0))", -1);
        fault("see 1 !(!(!(h=0)))", 11);
        fault("see 1 (!(!(!h=0)))", 11);
        fault("see 1 !!!!!h=0&!!!!!h=0|!!!!!h=0", -1);
        fault("see 1 (((((h=0)))))&(((((h=0)))))|(((((h=0)))))", -1);
        fault("see 1 !(h=0)&!!!!!h=0", -1);
        fault("see 1 !(h=0&!!!!h=0)", 15);
        fault("see 1 (h=0&!!!!h=0)", -1);
        fault("see 1 (h=0|!!!!!h=0)", 15);
        fault("see 1 !!!!!h=0;see 1 !!!!!h=0", -1);
        holds("!!!!!h=0", true);
        holds("!(!(!h=2))", false);
    }

    private static void firstByte() {
        fault("x", 0);
        fault("sx", 1);
        fault("sex", 2);
        fault("six", 2);
        fault("hx", 1);
        fault("drx", 2);
        fault("Sight 1", 0);
        fault("sight x", 6);
        fault("see 1 z=1", 6);
        fault("see 1 h1", 7);
        fault("see 1 h=z", 8);
        fault("see 1 (h=1;", 10);
        fault("see 1 !!!!!!", 11);
        fault("see 1 h=1;sight 2;drift x", 24);
        fault("sight 2;see 1 h=1&k>0|x", 22);
        MistHeaps x = new MistHeaps();
        x.feed(0);
        due("byte 0", x.hill(), -10);
        Checks.feed(x, "sight 1");
        x.feed(0);
        due("byte 0 at the end", x.hill(), -17);
        x.feed(127);
        due("byte 127", x.hill(), -10);
    }

    private static void endsTooEarly() {
        String whole = "see 10 !(h=1|k<2)&r>30;hide 1 m=0;sight 21;drift 2 s>1";
        MistHeaps x = new MistHeaps();
        due("the whole", Checks.hill(x, whole), 0);
        // Behind these it is a HILL already.
        String ends = " 17 21 22 33 41 42 54 ";
        for (int size = 0; size < whole.length(); size++) {
            if (ends.contains(" " + size + " ")) continue;
            due("the first " + size, Checks.hill(x, whole.substring(0, size)), -10 - size);
        }
        due("no other HILL", x.count(1), 1);
        due("the first 17", Checks.hill(x, whole.substring(0, 17)), 1);
        due("the first 21", Checks.hill(x, whole.substring(0, 21)), 2);
        due("the first 41", Checks.hill(x, whole.substring(0, 41)), 3);
        due("a digit less", x.told(2), 2);
        String most = "see 1 h=10" + "|h=10".repeat(17);
        due("all 100 signs", Checks.hill(x, most + "|h=1&"), -110);
        due("one less", Checks.hill(x, most + "|h=1"), 4);
    }

    private static void hillNumbers() {
        MistHeaps x = new MistHeaps();
        due("the first", Checks.hill(x, "sight 1"), 0);
        due("none", Checks.hill(x, "sight"), -15);
        due("the second", Checks.hill(x, "sight 2"), 1);
        due("the third", Checks.hill(x, "sight 2"), 2);
    }

    private static void fiveAtMost() {
        MistHeaps x = new MistHeaps();
        for (int i = 0; i < 5; i++) due("HILL " + i, Checks.hill(x, "sight " + i), i);
        due("one too many", Checks.hill(x, "sight 9"), FULL);
        due("there are", x.count(1), 5);
        due("the fifth one holds", x.told(2), 4);
    }

    private static void newestHolds() {
        MistHeaps x = heaps(Checks.withHill("sight 1;see 5 h=0;drift 4 r=0"), 0, 1);
        Checks.hill(x, "sight 2;see 7 h=1;drift 1 c=0");
        due("sight", x.told(2), 2);
        due("see", x.of(1, 3), 9);
        due("not the see of the older one", x.of(0, 3), 2);
        due("drift", x.drift(6), 1);
        due("not the drift of the older one", x.drift(1), 0);
        Checks.hill(x, "see 9 h=0|h=1;drift");
        due("not one with a FAULT", x.of(0, 3), 2);
        Checks.hill(x, "see 9 h=5");
        due("nor what stood ahead of the FAULT", x.of(0, 3), 3);
        for (int i = 0; i < 5; i++) Checks.hill(x, "see 9 h=4" + "|h=4".repeat(21) + ";");
        Checks.hill(x, "see 9 h=5|h=0");
        due("there is room for the newest", x.of(0, 3), 12);
    }

    private static void noClauses() {
        MistHeaps x = heaps(new MistHeaps(), 0, 35);
        due("sight", x.told(2), 3);
        due("REACH", x.of(1, 3), 3);
        for (int cell = 0; cell < 36; cell++) due("DRIFT on " + cell, x.drift(cell), 0);
    }

    private static void lastSight() {
        due("no HILL", new MistHeaps().told(2), 3);
        due("a HILL without", Checks.withHill("see 1 h=0").told(2), 3);
        due("the last of two", Checks.withHill("sight 9;sight 2").told(2), 2);
        due("the last of three", Checks.withHill("sight 1;sight 0;hide 1 h=0;sight 12;drift 1 h=0").told(2), 12);
        due("0", Checks.withHill("sight 0").told(2), 0);
        MistHeaps x = Checks.withHill("sight 7");
        Checks.hill(x, "sight 8;x");
        due("a FAULT changes nothing", x.told(2), 7);
        Checks.hill(x, "drift 1 h=0");
        due("the newest without", x.told(2), 3);
    }

    private static void driftTogether() {
        MistHeaps x = Checks.withHill("drift 1 r=1;drift 2 c=1;see 1 r=5;hide 1 r=5;drift 1 h=99&c=1;sight 4");
        due("none holds", x.drift(35), 0);
        due("one holds", x.drift(6), 1);
        due("two hold", x.drift(1), 3);
        due("three hold", x.drift(7), 4);
    }

    private static void driftFiveAtMost() {
        due("4", Checks.withHill("drift 4 h=99").drift(0), 4);
        due("5", Checks.withHill("drift 5 h=99").drift(0), 5);
        due("6", Checks.withHill("drift 6 h=99").drift(0), 5);
        due("3 and 3", Checks.withHill("drift 3 h=99;drift 3 h=99").drift(0), 5);
        due("99", Checks.withHill("drift 99 h=99").drift(35), 5);
    }

    private static int reach(String hill, int kind, int v, int mist, int snow) {
        MistHeaps x = Checks.withHill(hill);
        x.set(0, mist);
        x.set(1, snow);
        x.heap(kind, v, 8);
        return x.of(0, 3);
    }

    private static void plainReach() {
        for (int kind = 0; kind <= 3; kind += 3) {
            due("sight", reach("sight 5", kind, 9, 0, 9), 5);
            due("see", reach("sight 5;see 2 h=0;see 10 r=1;see 50 r=2", kind, 9, 0, 0), 17);
            due("hide", reach("sight 5;hide 2 h=0;hide 1 r=1;hide 5 r=2", kind, 9, 0, 0), 2);
            due("MIST", reach("sight 5", kind, 9, 4, 1), 1);
            due("all", reach("hide 20 h=0;sight 5;see 25 c=2", kind, 0, 3, 9), 7);
            due("more is hidden than seen", reach("hide 3 h=0;see 2 h=0;sight 9", kind, 0, 1, 0), 7);
            due("more is hidden than sight", reach("hide 9 h=0;sight 2;see 9 h=0", kind, 0, 0, 0), 2);
        }
    }

    private static void highReach() {
        int[] more = {0, 0, 0, 1, 1, 1, 2, 2, 2, 3};
        for (int kind = 1; kind <= 4; kind += 3) {
            for (int v = 0; v <= 9; v++) due("KIND " + kind + ", v " + v, reach("sight 5", kind, v, 0, 0), 5 + more[v]);
            due("KIND " + kind + " in MIST", reach("sight 3", kind, 9, 5, 0), 1);
            due("KIND " + kind + " in more", reach("sight 3", kind, 9, 6, 0), 0);
        }
    }

    private static void lowReach() {
        for (int v = 0; v <= 9; v += 9) {
            due("LOW", reach("sight 5", 2, v, 0, 0), 4);
            due("SNOWED", reach("sight 5", 5, v, 0, 0), 4);
            due("LOW, 1", reach("sight 1", 2, v, 0, 0), 0);
            due("SNOWED, 1", reach("sight 1", 5, v, 0, 0), 0);
        }
    }

    private static void noLessThan0() {
        for (int kind = 0; kind <= 6; kind++) {
            due("KIND " + kind + " just 0", reach("sight 1", kind, 0, kind == 2 || kind == 5 ? 0 : 1, 0), 0);
            due("KIND " + kind + " below", reach("sight 1", kind, 2, 2, 0), 0);
            due("KIND " + kind + " far below", reach("sight 0;hide 99 h=0;hide 99 h=0", kind, 9, 9, 0), 0);
        }
    }

    private static void snowed() {
        due("SNOW below v", reach("sight 5", 5, 3, 0, 2), 4);
        due("SNOW is v", reach("sight 5", 5, 3, 0, 3), 4);
        due("SNOW above v", reach("sight 5", 5, 3, 0, 4), 0);
        due("SNOW 0, v 0", reach("sight 5", 5, 0, 0, 0), 4);
        due("SNOW 1, v 0", reach("sight 5", 5, 0, 0, 1), 0);
        due("SNOW 9, v 9", reach("sight 5", 5, 9, 0, 9), 4);
        due("whatever is seen", reach("see 99 h=0", 5, 0, 0, 9), 0);
        due("not LOW", reach("sight 5", 2, 0, 0, 9), 4);
    }

    private static void old() {
        due("far more", reach("see 99 h=0", 6, 0, 0, 0), 1);
        due("2", reach("sight 2", 6, 9, 0, 0), 1);
        due("1", reach("sight 1", 6, 9, 0, 0), 1);
        due("0", reach("sight 0", 6, 9, 0, 0), 0);
        due("not FALSE", reach("sight 2", 3, 9, 0, 0), 2);
    }

    private static void seen() {
        MistHeaps x = Checks.withHill("sight 2");
        x.heap(2, 0, 0);
        x.heap(0, 0, 35);
        due("on its CELL", x.sees(0), 1);
        due("just as far as its REACH", x.sees(7), 1);
        due("farther", x.sees(14), 0);
        due("farther than the other's", x.sees(20), 0);
        due("just as far as the other's", x.sees(21), 2);
        due("at the other", x.sees(35), 2);
        x.set(0, 9);
        due("REACH 0, on its CELL", x.sees(35), 2);
        due("REACH 0, beside it", x.sees(34), 0);
    }
}
