/** What the document bounds of rules, normal forms, the memo, the index (part 3, promises 11 to 14, 24, 26 to 29). */
public final class RuleEdgesTest {
    private static final int[] WRONG = {-1, -2, -3, Integer.MIN_VALUE, Integer.MAX_VALUE};

    private RuleEdgesTest() { }

    public static void main(String[] args) {
        rulesAsked();
        rulesRefused();
        rulesEight();
        rulesOfSizeTwelve();
        rulesEmptyTheMemo();
        fitsOfWeights();
        fitsChangeNothing();
        meetingsOfRules();
        meetingsApart();
        meetingsFar();
        normalRefused();
        normalOfVariables();
        normalByTheFirstRule();
        normalFromTheLeft();
        normalMemoBehind();
        normalHits();
        noStepInIt();
        memoAsked();
        memoOfEachRoom();
        memoLetsTheEldestGo();
        roomTold();
        hundredSteps();
        hundredStepsOfEachCall();
        hundredStepsWithinOneAnother();
        stepsFarWithinOneAnother();
        tooMuchChangesNothing();
        entriesAsked();
        entriesTwelve();
        entriesOnce();
        entriesGo();
        findAsked();
        findMoreGeneral();
        findApart();
        Checks.end();
    }

    /** Terms: 0 ?0, 1 a, 2 g(a), 3 f(?0,g(a)), 4 g(?0), 5 g(g(?0)), 6 f(?0,a), 7 ?1, 8 f(?1,?1). MEMO: g(?0), a, g(a). */
    private static TermBank some() {
        TermBank bank = new TermBank();
        Checks.told(bank, "symbol a 0 1;symbol f 2 2;symbol g 1 1;term f(?0,g(a));rule g(g(?0)) to ?0;rule f(?0,a) to ?0;"
            + "entry f(?1,?1);entry g(?0);room 3;");
        bank.normal(4);
        bank.normal(2);
        bank.image();
        bank.bind(2, 8);
        return bank;
    }

    private static TermBank told(String text) {
        TermBank bank = new TermBank();
        Checks.due("bank of " + text, Checks.told(bank, text), 0);
        return bank;
    }

    /** Promise 12: "LEFT (what 0), RIGHT (1) of a RULE. NoSuchElementException: no such RULE, another what." */
    private static void rulesAsked() {
        int[][] due = {{5, 0}, {6, 0}};
        for (int k = 0; k < 2; k++) {
            int rule = k;
            Twins.asked("LEFT of " + k, RuleEdgesTest::some, bank -> bank.rule(rule, 0), due[k][0]);
            Twins.asked("RIGHT of " + k, RuleEdgesTest::some, bank -> bank.rule(rule, 1), due[k][1]);
            Twins.noSuch("rule(" + k + ", 2)", RuleEdgesTest::some, bank -> bank.rule(rule, 2));
            Twins.noSuch("rule(2, " + k + ")", RuleEdgesTest::some, bank -> bank.rule(2, rule));
        }
        for (int wrong : WRONG) {
            Twins.noSuch("rule(" + wrong + ", 0)", RuleEdgesTest::some, bank -> bank.rule(wrong, 0));
            Twins.noSuch("rule(0, " + wrong + ")", RuleEdgesTest::some, bank -> bank.rule(0, wrong));
        }
        TermBank unlike = told("symbol a 0 1;symbol b 0 2;symbol c 0 3;rule c to b;rule b to a;rule c to a;");
        int[][] sides = {{0, 1}, {1, 2}, {0, 2}};
        for (int k = 0; k < 3; k++) {
            Checks.due("its LEFT", unlike.rule(k, 0), sides[k][0]);
            Checks.due("its RIGHT", unlike.rule(k, 1), sides[k][1]);
        }
    }

    /** "a LEFT, that is no VARIABLE and GREATER than its RIGHT"; promise 26: "NONE (STATUS 1): also .. it is none." */
    private static void rulesRefused() {
        Twins.acted("g(a) to a", RuleEdgesTest::some, bank -> bank.rules(2, 1), 3);
        Twins.acted("f(?1,?1) to ?1", RuleEdgesTest::some, bank -> bank.rules(8, 7), 3);
        Twins.acted("a RULE that is there", RuleEdgesTest::some, bank -> bank.rules(5, 0), 3);
        Twins.refused("?0 to a", RuleEdgesTest::some, bank -> bank.rules(0, 1), -1, 1);
        Twins.refused("?0 to ?0", RuleEdgesTest::some, bank -> bank.rules(0, 0), -1, 1);
        Twins.refused("?0 to ?1", RuleEdgesTest::some, bank -> bank.rules(0, 7), -1, 1);
        Twins.refused("a to a", RuleEdgesTest::some, bank -> bank.rules(1, 1), -1, 1);
        Twins.refused("a to g(a)", RuleEdgesTest::some, bank -> bank.rules(1, 2), -1, 1);
        Twins.refused("g(a) to g(?0)", RuleEdgesTest::some, bank -> bank.rules(2, 4), -1, 1);
        Twins.refused("f(?0,g(a)) to ?1", RuleEdgesTest::some, bank -> bank.rules(3, 7), -1, 1);
        Twins.refused("f(?0,a) to f(?1,?1)", RuleEdgesTest::some, bank -> bank.rules(6, 8), -1, 1);
        for (int wrong : new int[] {9, -1, -2, Integer.MIN_VALUE, Integer.MAX_VALUE}) {
            Twins.refused("rules(" + wrong + ", 1)", RuleEdgesTest::some, bank -> bank.rules(wrong, 1), -1, 1);
            Twins.refused("rules(2, " + wrong + ")", RuleEdgesTest::some, bank -> bank.rules(2, wrong), -1, 1);
            Twins.refused("rules(" + wrong + ", " + wrong + ")", RuleEdgesTest::some, bank -> bank.rules(wrong, wrong), -1, 1);
        }
    }

    private static TermBank withRules(int n) {
        TermBank bank = some();
        for (int k = 2; k < n; k++) {
            Checks.due("rules()", bank.rules(k % 2 == 0 ? 2 : 8, k % 2 == 0 ? 1 : 7), k + 1);
        }
        return bank;
    }

    /** "RULES 0, 1 .. (at most 8)"; promise 26: "how many there are. NONE (STATUS 1): also there are 8" */
    private static void rulesEight() {
        for (int n = 2; n < 8; n++) {
            int there = n;
            Twins.acted("the next behind " + n, () -> withRules(there), bank -> bank.rules(3, 1), n + 1);
        }
        Twins.refused("the 9th", () -> withRules(8), bank -> bank.rules(3, 1), -1, 1);
        Twins.refused("the 9th, none anyway", () -> withRules(8), bank -> bank.rules(0, 1), -1, 1);
        Twins.asked("the 8th", () -> withRules(8), bank -> bank.rule(7, 0), 8);
        Twins.asked("its RIGHT", () -> withRules(8), bank -> bank.rule(7, 1), 7);
        Twins.noSuch("rule(8, 0)", () -> withRules(8), bank -> bank.rule(8, 0));
        Twins.noSuch("rule(7, 0) of 7", () -> withRules(7), bank -> bank.rule(7, 0));
        TermBank bank = withRules(8);
        bank.undo();
        Checks.due("7 again", bank.count(2), 7);
        Checks.due("the 8th can come", bank.rules(3, 1), 8);
        Checks.due("it is the last one", bank.rule(7, 0), 3);
        // The 8th RULE makes STEPS, too.
        TermBank last = told("symbol a 0 1;symbol g 1 1;" + "rule g(g(g(a))) to a;".repeat(7) + "term g(a);");
        last.rules(1, 0);
        Checks.due("a STEP by the 8th", last.normal(1), 0);
    }

    /** Terms of SIZE 10 to 13 of f and g, and of q and s, which weigh 9: q's are GREATER. */
    private static TermBank sized() {
        TermBank bank = told("symbol f 3 1;symbol g 1 1;symbol q 1 9;term f(f(?0,?0,?0),f(?0,?0,?0),?0);");
        int t = 2;
        for (int k = 0; k < 3; k++) {
            t = bank.make(1, t, 0, 0);
        }
        t = 2;
        for (int k = 0; k < 3; k++) {
            t = bank.make(2, t, 0, 0);
        }
        return bank;
    }

    /** "both of a SIZE of 12 at most" */
    private static void rulesOfSizeTwelve() {
        int[] sizes = {1, 4, 10, 11, 12, 13, 11, 12, 13};
        for (int t = 0; t < sizes.length; t++) {
            int term = t;
            Twins.asked("SIZE", RuleEdgesTest::sized, bank -> bank.term(term, 2), sizes[t]);
        }
        Twins.acted("11 to 10", RuleEdgesTest::sized, bank -> bank.rules(3, 2), 1);
        Twins.acted("12 to 11", RuleEdgesTest::sized, bank -> bank.rules(4, 3), 1);
        Twins.acted("12 to 1", RuleEdgesTest::sized, bank -> bank.rules(4, 0), 1);
        Twins.refused("13 to 12", RuleEdgesTest::sized, bank -> bank.rules(5, 4), -1, 1);
        Twins.refused("13 to 1", RuleEdgesTest::sized, bank -> bank.rules(5, 0), -1, 1);
        Twins.acted("a greater 12 to 12", RuleEdgesTest::sized, bank -> bank.rules(7, 4), 1);
        Twins.refused("a greater 12 to 13", RuleEdgesTest::sized, bank -> bank.rules(7, 5), -1, 1);
        Twins.refused("a greater 13 to 13", RuleEdgesTest::sized, bank -> bank.rules(8, 5), -1, 1);
        Twins.refused("a greater 13 to 1", RuleEdgesTest::sized, bank -> bank.rules(8, 0), -1, 1);
        Twins.asked("it is GREATER all the same", RuleEdgesTest::sized, bank -> bank.order(7, 5), 1);
    }

    /** "A RULE, ROOM that comes empties MEMO." What is refused doesn't, and an ENTRY doesn't. */
    private static void rulesEmptyTheMemo() {
        TermBank bank = some();
        Twins.same("MEMO", Twins.memo(bank), " 4=4 1=1 2=2");
        bank.rules(1, 2);
        bank.room(10);
        bank.enter(3);
        bank.leave(8);
        bank.bind(3, 4);
        bank.make(2, 3, 0, 0);
        Twins.same("MEMO still", Twins.memo(bank), " 4=4 1=1 2=2");
        bank.rules(2, 1);
        Twins.same("no MEMO", Twins.memo(bank), "");
        Checks.due("its count", bank.count(5), 0);
        Checks.due("no HITS, no STEPS go", bank.count(6) * 10 + bank.count(7), 0);
        Checks.due("g(a) gets a", bank.normal(2), 1);
        bank.undo();
        bank.undo();
        Twins.same("MEMO of before", Twins.memo(bank), " 4=4 1=1 2=2");
    }

    private static void fits(String text, int symbol, int many, int least) {
        TermBank bank = told(text);
        String before = Twins.picture(bank);
        Checks.due("FITS of " + symbol + " by " + text, bank.symbol(symbol, 3), many);
        Checks.due("the least of " + symbol + " by " + text, bank.symbol(symbol, 4), least);
        Twins.same("nothing changes by it", Twins.picture(bank), before);
        Checks.due("still so many", bank.symbol(symbol, 3), many);
        Checks.due("its WEIGHT is as ever", bank.symbol(symbol, 2), text.charAt(13 * symbol + 11) - '0');
    }

    /** "FITS of a SYMBOL: WEIGHTS (1 to 9) by which, all else as it is, all RULES were RULES: how many; the least." */
    private static void fitsOfWeights() {
        fits("symbol a 0 3;symbol b 0 4;", 0, 9, 1);
        for (int w = 1; w <= 9; w++) {
            // b to a, b being of the greater number: b may weigh as much.
            fits("symbol a 0 " + w + ";symbol b 0 9;rule b to a;", 1, 10 - w, w);
            fits("symbol a 0 1;symbol b 0 " + w + ";rule b to a;", 0, w, 1);
            if (w > 1) {
                // b to c, c being of the greater number: b must weigh more.
                fits("symbol b 0 9;symbol c 0 " + (w - 1) + ";rule b to c;", 0, 10 - w, w);
                fits("symbol b 0 " + w + ";symbol c 0 1;rule b to c;", 1, w - 1, 1);
            }
        }
        // Between two RULES, and with one that leaves no other WEIGHT.
        fits("symbol a 0 3;symbol b 0 4;symbol c 0 6;rule b to a;rule c to b;", 1, 4, 3);
        fits("symbol a 0 4;symbol b 0 4;symbol c 0 4;rule b to a;rule c to b;", 1, 1, 4);
        // The SYMBOL twice on the right side, once on the left one: g(?0,..).
        fits("symbol f 1 5;symbol g 1 2;rule f(?0) to g(g(?0));", 1, 2, 1);
        fits("symbol g 1 2;symbol f 1 4;rule f(?0) to g(g(?0));", 0, 2, 1);
        fits("symbol g 1 2;symbol f 1 4;rule f(?0) to g(g(?0));", 1, 6, 4);
        // As often on both sides: any.
        fits("symbol g 1 2;symbol a 0 1;symbol b 0 1;rule g(b) to g(a);", 0, 9, 1);
        // A WEIGHT that tells which ARGUMENTS are GREATER: f(b,a) to f(a,b).
        fits("symbol f 2 1;symbol a 0 3;symbol b 0 5;rule f(b,a) to f(a,b);", 1, 5, 1);
        fits("symbol f 2 1;symbol a 0 3;symbol b 0 5;rule f(b,a) to f(a,b);", 2, 7, 3);
        // The eighth RULE counts, too.
        fits("symbol a 0 1;symbol b 0 5;" + "rule b to a;".repeat(7) + "symbol c 0 3;rule b to c;", 1, 6, 4);
    }

    /** "all else as it is": what is GREATER, what is a RULE, is so by the WEIGHTS as they are, asked behind it. */
    private static void fitsChangeNothing() {
        for (int what = 3; what <= 4; what++) {
            for (int symbol = 0; symbol < 3; symbol++) {
                TermBank bank = told("symbol a 0 3;symbol b 0 4;symbol c 0 8;term a;term b;term c;");
                bank.symbol(symbol, what);
                Checks.due("b is GREATER than a", bank.order(1, 0), 1);
                Checks.due("c is GREATER than b", bank.order(2, 1), 1);
                bank.symbol(symbol, what);
                Checks.due("no RULE a to b", bank.rules(0, 1), -1);
                Checks.due("no RULE b to c", bank.rules(1, 2), -1);
                bank.symbol(symbol, what);
                Checks.due("a RULE b to a", bank.rules(1, 0), 1);
                bank.symbol(symbol, what);
                Checks.due("a RULE c to b", bank.rules(2, 1), 2);
                bank.symbol(symbol, what);
                Checks.due("a text's RULE", Checks.told(bank, "symbol a 0 3;symbol b 0 4;symbol c 0 8;rule b to a;rule c to b;"), 0);
                bank.symbol(symbol, what);
                Checks.due("no text's RULE", Checks.told(bank, "symbol a 0 3;symbol b 0 4;rule a to b;"), 5);
            }
        }
    }

    private static void meetings(String text, int many, int first) {
        TermBank bank = told(text);
        String before = Twins.bounds(bank);
        Checks.due("MEETINGS of " + text, bank.count(9), many);
        Checks.due("the first of " + text, bank.count(10), first);
        Twins.same("no BINDING by them", Twins.bounds(bank), before);
        Checks.due("no act, no STATUS", bank.count(11) + bank.count(14) + bank.count(16), 0);
    }

    private static final String FGH = "symbol a 0 1;symbol b 0 1;symbol g 1 1;symbol f 2 1;symbol h 3 1;";

    /** "of RULES i, j, and a PLACE of i's LEFT in which there is no VARIABLE (not 0, if i is j)" */
    private static void meetingsOfRules() {
        meetings(FGH, 0, -1);
        meetings(FGH + "rule b to a;", 0, -1);
        meetings(FGH + "rule g(?0) to ?0;", 0, -1);
        meetings(FGH + "rule g(g(?0)) to ?0;", 1, 10);
        meetings(FGH + "rule g(g(g(?0))) to ?0;", 2, 10);
        meetings(FGH + "rule b to a;rule b to a;", 2, 1);
        meetings(FGH + "rule b to a;rule g(b) to a;", 1, 1010);
        meetings(FGH + "rule g(b) to a;rule b to a;", 1, 11);
        meetings(FGH + "rule g(?0) to ?0;rule g(?1) to ?1;", 2, 1);
        meetings(FGH + "rule f(?0,b) to ?0;rule f(b,?0) to ?0;", 2, 1);
        meetings(FGH + "rule f(?0,b) to ?0;rule f(g(?0),a) to ?0;", 0, -1);
        // Rule 1 has rule 0's LEFT twice in it, at places 1 and 3.
        meetings(FGH + "rule g(b) to a;rule f(g(b),g(b)) to a;", 2, 1010);
        // By RULES i, then by PLACES, then by RULES j: place 1 with 2 before place 2 with 1.
        meetings(FGH + "rule f(g(b),?0) to ?0;rule b to a;rule g(?0) to ?0;", 2, 12);
        meetings(FGH + "rule h(?0,g(a),b) to ?0;rule b to a;rule g(a) to a;", 2, 22);
    }

    /** "can be UNIFIED, VARIABLES of both told apart" */
    private static void meetingsApart() {
        // g(?0) within f(?0,g(?0)) and f(g(?0),?0): with ?0 as one there would be a RING.
        meetings(FGH + "rule f(f(?0,a),?0) to ?0;", 1, 10);
        meetings(FGH + "rule f(?0,g(?0)) to ?0;rule f(g(?0),?0) to ?0;", 0, -1);
        meetings(FGH + "rule f(?0,g(?1)) to ?0;rule f(g(?0),?1) to ?0;", 2, 1);
        // f(?0,?0) with f(?0,g(?0)) would be a RING; g(?0) in the second LEFT meets the first one.
        meetings(FGH + "rule g(f(?0,?0)) to ?0;rule f(?0,g(?0)) to ?0;", 1, 1020);
        meetings(FGH + "rule g(f(?0,?1)) to ?0;rule f(?0,g(?0)) to ?0;", 2, 11);
        meetings(FGH + "rule g(f(a,?1)) to a;rule f(b,?0) to ?0;", 0, -1);
    }

    /** 1000 times i, 10 times the PLACE, and j: the last PLACE of a LEFT of SIZE 12, the last RULES. */
    private static void meetingsFar() {
        meetings("symbol a 0 1;symbol b 0 1;symbol f 3 1;symbol g 1 1;rule b to a;"
            + "rule g(g(f(f(?0,?0,?0),f(?0,?0,?0),b))) to a;", 1, 1110);
        meetings(FGH + "rule g(b) to g(a);" + "rule h(a,a,g(b)) to a;".repeat(7), 7 * 6 + 7, 1002);
        meetings(FGH + "rule h(a,a,b) to a;rule f(a,a) to a;rule f(a,g(a)) to a;rule f(g(a),a) to a;rule h(a,a,a) to a;"
            + "rule h(b,b,a) to a;rule f(g(a),g(a)) to a;rule g(g(h(b,b,a))) to a;", 1, 7025);
        meetings(FGH + "rule g(g(h(b,b,a))) to a;rule f(a,a) to a;rule f(a,g(a)) to a;rule f(g(a),a) to a;rule h(a,a,a) to a;"
            + "rule h(a,b,a) to a;rule f(g(a),g(a)) to a;rule h(b,b,a) to a;", 1, 27);
    }

    /** Promise 24: "NONE (STATUS 1): no such TERM (as of all ACTS below)" */
    private static void normalRefused() {
        for (int wrong : new int[] {9, 10, -1, -2, -3, Integer.MIN_VALUE, Integer.MAX_VALUE}) {
            Twins.refused("normal(" + wrong + ")", RuleEdgesTest::some, bank -> bank.normal(wrong), -1, 1);
        }
        Twins.acted("normal(8)", RuleEdgesTest::some, bank -> bank.normal(8), 8);
        Twins.acted("normal(5)", RuleEdgesTest::some, bank -> bank.normal(5), 0);
        Twins.acted("normal(2), a HIT", RuleEdgesTest::some, bank -> bank.normal(2), 2);
    }

    /** "NORMAL of a TERM: a VARIABLE is itself." */
    private static void normalOfVariables() {
        Twins.acted("normal(?0)", RuleEdgesTest::some, bank -> bank.normal(0), 0);
        TermBank bank = some();
        bank.bind(0, 2);
        Checks.due("bound or not", bank.normal(0), 0);
        Twins.same("MEMO doesn't get it", Twins.memo(bank), " 4=4 1=1 2=2");
        Checks.due("no HIT, no STEP", bank.count(6) + bank.count(7), 0);
    }

    /** "the first RULE whose LEFT MATCHES that makes one STEP: its RIGHT, APPLIED so, and NORMAL of that" */
    private static void normalByTheFirstRule() {
        String s = "symbol a 0 1;symbol b 0 2;symbol c 0 3;symbol g 1 1;symbol f 2 1;";
        TermBank first = told(s + "rule f(a,?0) to a;rule f(?0,b) to b;rule f(a,b) to c;term f(a,b);term f(c,b);");
        Checks.due("the first of three", first.normal(first.rule(2, 0)), first.rule(0, 1));
        Checks.due("one STEP", first.count(7), 1);
        Checks.due("the first that MATCHES", first.normal(first.count(1) - 1), first.rule(1, 1));
        Checks.due("one STEP more", first.count(7), 2);
        // Its RIGHT, APPLIED, comes; NORMAL of that by other RULES, of its ARGUMENTS, too.
        TermBank on = told(s + "rule f(?0,?1) to g(?1);rule g(c) to b;rule b to a;term f(?0,c);");
        int t = on.count(1) - 1;
        int before = on.count(1);
        Checks.due("f(?0,c), g(c), b, a", on.normal(t), on.rule(2, 1));
        Checks.due("three STEPS", on.count(7), 3);
        Checks.due("nothing came", on.count(1), before);
        TermBank comes = told(s + "rule f(?0,?1) to g(g(?1));rule g(g(g(?0))) to ?0;term f(?0,g(a));");
        int u = comes.count(1) - 1;
        // g(g(g(a))) comes, with g(g(a)) ahead of it; it is a.
        Checks.due("a", comes.normal(u), u - 2);
        Checks.due("two came", comes.count(1), u + 3);
        Checks.due("g(g(a)) is the first of them", comes.argument(u + 1, 0), u - 1);
        // A RIGHT may be a VARIABLE that has what is NORMAL already: asked again, it is in MEMO.
        TermBank again = told(s + "rule f(?0,?1) to ?1;term f(a,b);");
        Checks.due("b", again.normal(again.count(1) - 1), again.count(1) - 2);
        Checks.due("a HIT of b", again.count(6), 1);
    }

    /** "NORMAL of each ARGUMENT, from the left, makes a TERM" */
    private static void normalFromTheLeft() {
        TermBank bank = told("symbol a 0 1;symbol b 0 1;symbol c 0 1;symbol h 3 1;rule c to a;term h(b,c,a);room 9;");
        // c 0, a 1, b 2, h(b,c,a) 3; h(b,a,a) comes.
        Checks.due("h(b,a,a)", bank.normal(3), 4);
        Twins.same("b, a by c, c, a again, h(b,a,a), h(b,c,a)", Twins.memo(bank), " 2=2 0=1 1=1 3=4");
        Checks.due("a HIT of a", bank.count(6), 1);
        Checks.due("a STEP of c", bank.count(7), 1);
        int[] parts = {2, 1, 1};
        for (int i = 0; i < 3; i++) {
            Checks.due("its ARGUMENT " + i, bank.argument(4, i), parts[i]);
        }
        // MEMO has the TERM that was asked, not the one that was made of NORMAL ARGUMENTS.
        Checks.due("h(b,a,a) asked", bank.normal(4), 4);
        Checks.due("HITS of b, a, a", bank.count(6), 4);
    }

    /** "Behind that MEMO gets it (for the TERM that was asked), as the last one used" */
    private static void normalMemoBehind() {
        TermBank bank = told("symbol a 0 1;symbol g 1 1;symbol f 1 2;rule f(?0) to g(?0);term f(f(a));room 9;");
        // ?0, f(?0) 1, g(?0) 2, a 3, f(a) 4, f(f(a)) 5; g(a) 6, f(g(a)) 7, g(g(a)) 8 come.
        Checks.due("g(g(a))", bank.normal(5), 8);
        // a; then of f(a): a again, g(a); f(a); of g(g(a)): g(a) again; g(g(a)); f(f(a)).
        Twins.same("MEMO in order of use", Twins.memo(bank), " 3=3 4=6 6=6 8=8 5=8");
        Checks.due("HITS of a, g(a)", bank.count(6), 2);
        Checks.due("two STEPS", bank.count(7), 2);
        Checks.due("what came", bank.count(1), 9);
        Checks.due("f(g(a)) came second", bank.argument(7, 0), 6);
    }

    /** "if MEMO has the TERM: what it has (a HIT; the TERM is the last one used then)" */
    private static void normalHits() {
        TermBank bank = some();
        Checks.due("g(?0), a HIT", bank.normal(4), 4);
        Twins.same("it is the last one used", Twins.memo(bank), " 1=1 2=2 4=4");
        Checks.due("a HIT", bank.count(6), 1);
        Checks.due("g(?0) again", bank.normal(4), 4);
        Twins.same("it is so still", Twins.memo(bank), " 1=1 2=2 4=4");
        Checks.due("g(a)", bank.normal(2), 2);
        Twins.same("the middle one", Twins.memo(bank), " 1=1 4=4 2=2");
        Checks.due("HITS", bank.count(6), 3);
        Checks.due("no STEP", bank.count(7), 0);
        bank.undo();
        Twins.same("undone", Twins.memo(bank), " 1=1 2=2 4=4");
        Checks.due("HITS undone", bank.count(6), 2);
    }

    /** "9 whether no RULE can make a STEP in it" */
    private static void noStepInIt() {
        TermBank bank = told("symbol a 0 1;symbol b 0 1;symbol h 3 1;symbol g 1 1;term a;term b;term h(a,a,b);term h(a,b,a);term h(b,a,a);"
            + "term h(a,a,a);term g(h(a,a,b));");
        for (int t = 0; t < bank.count(1); t++) {
            Checks.due("without RULES", bank.term(t, 9), 1);
        }
        bank.rules(1, 0);
        int[] due = {1, 0, 0, 0, 0, 1, 0};
        for (int t = 0; t < due.length; t++) {
            Checks.due("b to a, in " + t, bank.term(t, 9), due[t]);
        }
        Checks.due("asking makes none", bank.count(7), 0);
        // The first term of all as the part of others.
        TermBank zero = told("symbol b 0 2;symbol a 0 1;symbol g 1 1;term b;term g(b);term a;rule b to a;");
        Checks.due("a STEP in the part that came first", zero.term(1, 9), 0);
        bank.undo();
        bank.rules(2, 0);
        Checks.due("h(a,a,b) to a, in g of it", bank.term(6, 9), 0);
        Checks.due("not in its parts", bank.term(1, 9), 1);
        // VARIABLES of the TERM are no VARIABLES of a LEFT: f(?0,?0) doesn't MATCH f(?0,?1).
        TermBank unlike = told("symbol f 2 1;rule f(?0,?0) to ?0;term f(?0,?1);term f(?1,?1);");
        Checks.due("f(?0,?1)", unlike.term(3, 9), 1);
        Checks.due("f(?1,?1)", unlike.term(4, 9), 0);
    }

    /** Promise 14: "The i-th TERM that MEMO has (0: used longest ago; what 0), what it has for that (1)." */
    private static void memoAsked() {
        int[] due = {4, 1, 2};
        for (int i = 0; i < 3; i++) {
            int which = i;
            Twins.asked("memo(" + i + ", 0)", RuleEdgesTest::some, bank -> bank.memo(which, 0), due[i]);
            Twins.asked("memo(" + i + ", 1)", RuleEdgesTest::some, bank -> bank.memo(which, 1), due[i]);
            Twins.noSuch("memo(" + i + ", 2)", RuleEdgesTest::some, bank -> bank.memo(which, 2));
        }
        for (int what = 0; what < 3; what++) {
            int w = what;
            Twins.noSuch("memo(3, " + what + ")", RuleEdgesTest::some, bank -> bank.memo(3, w));
        }
        for (int wrong : WRONG) {
            Twins.noSuch("memo(" + wrong + ", 0)", RuleEdgesTest::some, bank -> bank.memo(wrong, 0));
            Twins.noSuch("memo(0, " + wrong + ")", RuleEdgesTest::some, bank -> bank.memo(0, wrong));
        }
        Twins.noSuch("memo(0, 0) of none", TermBank::new, bank -> bank.memo(0, 0));
    }

    private static TermBank constants() {
        StringBuilder text = new StringBuilder();
        for (char name = 'a'; name < 'k'; name++) {
            text.append("symbol ").append(name).append(" 0 1;term ").append(name).append(';');
        }
        return told(text.toString());
    }

    /** "has it more than ROOM (0 to 9; 4 without), the one that was used longest ago goes" */
    private static void memoOfEachRoom() {
        for (int room = 0; room <= 9; room++) {
            TermBank bank = constants();
            bank.room(room);
            StringBuilder due = new StringBuilder();
            for (int t = 0; t < 10; t++) {
                Checks.due("normal", bank.normal(t), t);
                Checks.due("ROOM " + room, bank.count(5), Math.min(room, t + 1));
                if (t >= 10 - room) {
                    due.append(' ').append(t).append('=').append(t);
                }
            }
            Twins.same("the last " + room, Twins.memo(bank), due.toString());
            Checks.due("no HITS", bank.count(6), 0);
            bank.normal(9);
            Checks.due("a HIT, if it is there", bank.count(6), room > 0 ? 1 : 0);
            int there = room;
            Checks.none("none beyond", () -> bank.memo(there, 0));
        }
        TermBank without = constants();
        for (int t = 0; t < 6; t++) {
            without.normal(t);
        }
        Twins.same("4 without", Twins.memo(without), " 2=2 3=3 4=4 5=5");
        Checks.due("ROOM 4", without.count(4), 4);
    }

    /** "a memo of them in order of use that lets the eldest go" */
    private static void memoLetsTheEldestGo() {
        TermBank bank = constants();
        bank.room(3);
        for (int t : new int[] {0, 1, 2, 0, 3}) {
            bank.normal(t);
        }
        Twins.same("1 went, not 0", Twins.memo(bank), " 2=2 0=0 3=3");
        bank.normal(1);
        Twins.same("2 went", Twins.memo(bank), " 0=0 3=3 1=1");
        bank.normal(3);
        bank.normal(4);
        Twins.same("0 went", Twins.memo(bank), " 1=1 3=3 4=4");
        Checks.due("two HITS", bank.count(6), 2);
        bank.undo();
        Twins.same("the eldest is there again", Twins.memo(bank), " 0=0 1=1 3=3");
        // Within one call: what went must be made again.
        TermBank one = told("symbol a 0 1;symbol b 0 1;symbol c 0 1;symbol h 3 1;term h(b,c,b);rule b to a;room 1;");
        one.normal(2);
        Twins.same("h alone", Twins.memo(one), " 2=4");
        Checks.due("b made two STEPS", one.count(7), 2);
        Checks.due("no HITS", one.count(6), 0);
    }

    /** Promise 29: "ROOM is told: what it was. NONE (STATUS 1): not 0 to 9." It empties MEMO. */
    private static void roomTold() {
        for (int n = 0; n <= 9; n++) {
            int room = n;
            Twins.acted("room(" + n + ")", RuleEdgesTest::some, bank -> bank.room(room), 3);
            TermBank bank = some();
            bank.room(n);
            Checks.due("ROOM", bank.count(4), n);
            Twins.same("MEMO is empty", Twins.memo(bank), "");
            Checks.due("what it was", bank.room(9 - n), n);
        }
        for (int wrong : new int[] {10, 11, -1, -2, Integer.MIN_VALUE, Integer.MAX_VALUE}) {
            Twins.refused("room(" + wrong + ")", RuleEdgesTest::some, bank -> bank.room(wrong), -1, 1);
        }
    }

    /** b to a, ROOM 0: each b in a TERM makes a STEP. Term numbers in n: the TERM with 81, 27, 9, 3, 1 b's. */
    private static TermBank bees() {
        TermBank bank = told("symbol a 0 1;symbol b 0 1;symbol f 3 1;symbol g 2 1;rule b to a;room 0;term f(b,b,b);term a;");
        int nine = bank.make(2, 2, 2, 2);
        int more = bank.make(2, nine, nine, nine);
        bank.make(2, more, more, more);
        return bank;
    }

    private static final int BEE = 0;
    private static final int AYE = 1;
    private static final int THREE = 2;
    private static final int NINE = 3;
    private static final int GREAT = 5;

    private static TermBank beesWith(int more) {
        TermBank bank = bees();
        int rest = more >= 9 ? bank.make(3, NINE, more >= 10 ? BEE : AYE, 0) : bank.make(3, AYE, AYE, 0);
        if (more >= 11) {
            rest = bank.make(3, NINE, bank.make(3, BEE, BEE, 0), 0);
        }
        bank.make(2, GREAT, NINE, rest);
        return bank;
    }

    /** "TOO MUCH: more than 100 STEPS in one call"; promise 24: "-2 (STATUS 2): TOO MUCH." */
    private static void hundredSteps() {
        int[] more = {9, 10, 11};
        for (int k : more) {
            TermBank bank = beesWith(k);
            int last = bank.count(1) - 1;
            if (k <= 10) {
                Checks.due(90 + k + " STEPS", bank.normal(last) >= 0 ? 1 : 0, 1);
                Checks.due("STEPS ever", bank.count(7), 90 + k);
                Checks.due("no b is left", bank.term(bank.normal(last), 9), 1);
            } else {
                Twins.refused("101 STEPS", () -> beesWith(k), b -> b.normal(last), -2, 2);
            }
        }
        TermBank far = bees();
        int top = far.make(2, GREAT, GREAT, GREAT);
        Twins.refused("243 STEPS", () -> {
            TermBank bank = bees();
            bank.make(2, GREAT, GREAT, GREAT);
            return bank;
        }, b -> b.normal(top), -2, 2);
    }

    /** "in one call": each call has its own 100. */
    private static void hundredStepsOfEachCall() {
        TermBank bank = beesWith(10);
        int last = bank.count(1) - 1;
        for (int k = 1; k <= 5; k++) {
            Checks.due("100 STEPS again", bank.normal(last) >= 0 ? 1 : 0, 1);
            Checks.due("STEPS ever", bank.count(7), 100 * k);
        }
        int beyond = bank.make(3, last, THREE, 0);
        Checks.due("too deep", beyond, -3);
        int other = bank.make(2, GREAT, NINE, bank.make(3, NINE, bank.make(3, BEE, BEE, 0), 0));
        Checks.due("TOO MUCH", bank.normal(other), -2);
        Checks.due("STEPS ever as before", bank.count(7), 500);
        Checks.due("100 STEPS behind TOO MUCH", bank.normal(last) >= 0 ? 1 : 0, 1);
        bank.room(9);
        Checks.due("with a MEMO it isn't TOO MUCH", bank.normal(other) >= 0 ? 1 : 0, 1);
        Checks.due("one STEP", bank.count(7), 601);
    }

    /** Seven digits, a for 0 and b for 1, or VARIABLES, as one TERM of f and q. */
    private static String form(String digits) {
        String[] parts = new String[7];
        int at = 0;
        for (int k = 0; k < 7; k++) {
            parts[k] = digits.charAt(at) == '?' ? digits.substring(at, at + 2) : digits.substring(at, at + 1);
            at += parts[k].length();
        }
        return "f(" + parts[0] + "," + parts[1] + ",q(" + parts[2] + "," + parts[3] + ",q(" + parts[4] + "," + parts[5] + "," + parts[6] + ")))";
    }

    /** By seven RULES each STEP makes a number one less, and its RIGHT makes the next STEP. */
    private static TermBank counter() {
        StringBuilder text = new StringBuilder("symbol a 0 1;symbol b 0 1;symbol q 3 1;symbol f 3 1;");
        for (int low = 0; low < 7; low++) {
            String high = "?0?1?2?3?4?5".substring(0, 2 * (6 - low));
            text.append("rule ").append(form(high + "b" + "a".repeat(low))).append(" to ");
            text.append(form(high + "a" + "b".repeat(low))).append(';');
        }
        return told(text.append("room 0;").toString());
    }

    private static int numbered(TermBank bank, int number) {
        int[] d = new int[7];
        for (int k = 0; k < 7; k++) {
            d[k] = bank.make(number >> (6 - k) & 1, 0, 0, 0);
        }
        return bank.make(3, d[0], d[1], bank.make(2, d[2], d[3], bank.make(2, d[4], d[5], d[6])));
    }

    /** 100 STEPS of which each is made within the one before. */
    private static void hundredStepsWithinOneAnother() {
        for (int number : new int[] {0, 1, 2, 64, 99, 100}) {
            TermBank bank = counter();
            Checks.due("counted down from " + number, bank.normal(numbered(bank, number)), numbered(bank, 0));
            Checks.due("STEPS", bank.count(7), number);
        }
        for (int number : new int[] {101, 127}) {
            int term = numbered(counter(), number);
            Twins.refused("counted down from " + number, () -> {
                TermBank bank = counter();
                numbered(bank, number);
                return bank;
            }, bank -> bank.normal(term), -2, 2);
        }
    }

    /**
     * 27 leaves, each taken in its turn: a STEP makes one less, a to b, b to c, and has the next STEP two TERMS deeper
     * in its RIGHT; the first c that is met ends it. All are a, but for the six that are taken last: these are told.
     */
    private static TermBank turning(String more, String last) {
        String leaf = "n(p(p(%s,?0,?1),?2,?3),?4,?5) to k(k(n(?4,?5,p(?2,?3,p(?0,?1,%s)))));";
        StringBuilder text = new StringBuilder("symbol c 0 5;symbol b 0 7;symbol a 0 9;symbol p 3 1;symbol k 1 1;symbol n 3 1;room 0;");
        text.append("rule ").append(String.format(leaf, "a", "b")).append("rule ").append(String.format(leaf, "b", "c")).append(more);
        String between = "term n(";
        for (int k = 0; k < 3; k++) {
            text.append(between).append("p(p(a,a,a),p(a,a,").append(last.charAt(k)).append("),p(a,a,").append(last.charAt(k + 3)).append("))");
            between = ",";
        }
        return told(text.append(");").toString());
    }

    /** "its RIGHT, APPLIED so, and NORMAL of that": STEPS within one another, each with TERMS of its own around it. */
    private static void stepsFarWithinOneAnother() {
        String away = "rule k(k(?0)) to ?0;";
        String[] lasts = {"bbbbbb", "aabbbb"};
        int[] steps = {96, 100};
        for (int k = 0; k < 2; k++) {
            TermBank bank = turning(away, lasts[k]);
            int normal = bank.normal(bank.count(1) - 1);
            Checks.due("all leaves are c", normal >= 0 ? bank.term(normal, 5) : normal, 27 * 5 + 13);
            Checks.due("its SIZE, no TERM around it", normal >= 0 ? bank.term(normal, 2) : normal, 40);
            Checks.due("STEPS, half of them to take away what is around", bank.count(7), steps[k]);
        }
        int much = turning(away, "aaabbb").count(1) - 1;
        Twins.refused("one leaf more", () -> turning(away, "aaabbb"), bank -> bank.normal(much), -2, 2);
        int deep = turning("", "aaaaaa").count(1) - 1;
        Twins.refused("54 STEPS, but then it is too deep", () -> turning("", "aaaaaa"), bank -> bank.normal(deep), -3, 2);
    }

    /** "What .. is .. TOO MUCH .. changes nothing (but STATUS)": MEMO and its order, HITS, STEPS, TERMS stay. */
    private static void tooMuchChangesNothing() {
        // With ROOM 1 no b is known any more behind c, and none of two TERMS that change places.
        Twins.Build build = () -> {
            TermBank bank = told("symbol a 0 1;symbol b 0 1;symbol c 0 1;symbol f 3 1;rule b to a;term f(b,c,b);term f(c,b,c);room 1;");
            int s = 3;
            int t = 4;
            for (int depth = 3; depth <= 5; depth++) {
                int u = bank.make(3, s, t, s);
                t = bank.make(3, t, s, t);
                s = u;
            }
            bank.make(3, s, t, s);
            bank.normal(2);
            bank.normal(2);
            return bank;
        };
        TermBank bank = build.bank();
        Twins.same("MEMO before", Twins.memo(bank), " 2=2");
        Checks.due("HITS before", bank.count(6), 1);
        int last = bank.count(1) - 1;
        Checks.due("6 deep", bank.term(last, 4), 6);
        // 2 and 1 STEPS, then 5 and 4, 14 and 13, 41 and 40, and 122.
        Twins.refused("TOO MUCH with a MEMO", build, b -> b.normal(last), -2, 2);
        Checks.due("one less deep", bank.normal(last - 2) >= 0 ? 1 : 0, 1);
        Checks.due("its STEPS", bank.count(7), 41);
    }

    /** Promise 13: "The i-th ENTRY. NoSuchElementException: there is none." */
    private static void entriesAsked() {
        Twins.asked("entry(0)", RuleEdgesTest::some, bank -> bank.entry(0), 8);
        Twins.asked("entry(1)", RuleEdgesTest::some, bank -> bank.entry(1), 4);
        Twins.noSuch("entry(2)", RuleEdgesTest::some, bank -> bank.entry(2));
        Twins.noSuch("entry(0) of none", TermBank::new, bank -> bank.entry(0));
        for (int wrong : WRONG) {
            Twins.noSuch("entry(" + wrong + ")", RuleEdgesTest::some, bank -> bank.entry(wrong));
        }
    }

    /** The first n of 13 terms are entries, in this order. */
    private static TermBank entries(int n) {
        TermBank bank = told("symbol g 1 1;term ?0;term ?1;term ?2;term ?3;term ?4;term ?5;term ?6;term ?7;term g(?0);term g(?1);term g(?2);"
            + "term g(?3);term g(?4);");
        for (int k = 0; k < n; k++) {
            Checks.due("enter(" + k + ")", bank.enter(k), k + 1);
        }
        return bank;
    }

    /** "ENTRIES (at most 12 ..)"; promise 27: "how many there are. NONE (STATUS 1): also there are 12" */
    private static void entriesTwelve() {
        for (int n = 0; n < 12; n++) {
            int there = n;
            Twins.acted("the next behind " + n, () -> entries(there), bank -> bank.enter(12), n + 1);
            Twins.noSuch("entry(" + n + ") of " + n, () -> entries(there), bank -> bank.entry(there));
        }
        Twins.refused("the 13th", () -> entries(12), bank -> bank.enter(12), -1, 1);
        Twins.refused("the 13th, one already", () -> entries(12), bank -> bank.enter(0), -1, 1);
        Twins.asked("the 12th", () -> entries(12), bank -> bank.entry(11), 11);
        Twins.noSuch("entry(12)", () -> entries(12), bank -> bank.entry(12));
        Twins.asked("which ENTRY the 12th is", () -> entries(12), bank -> bank.term(11, 8), 11);
        Twins.asked("which ENTRY the other one is", () -> entries(12), bank -> bank.term(12, 8), -1);
        TermBank bank = entries(12);
        bank.leave(0);
        Checks.due("one can come again", bank.enter(12), 12);
        Checks.due("no more", bank.enter(0), -1);
        bank.undo();
        bank.undo();
        Checks.due("the first one is there again", bank.entry(0), 0);
        Checks.due("and the last one", bank.entry(11), 11);
    }

    /** "each once"; promise 27: "it is one already" */
    private static void entriesOnce() {
        for (int t = 0; t < 5; t++) {
            int term = t;
            Twins.refused("enter(" + t + ") again", () -> entries(5), bank -> bank.enter(term), -1, 1);
        }
        Twins.acted("enter(5)", () -> entries(5), bank -> bank.enter(5), 6);
        for (int wrong : new int[] {13, 14, -1, -2, Integer.MIN_VALUE, Integer.MAX_VALUE}) {
            Twins.refused("enter(" + wrong + ")", () -> entries(5), bank -> bank.enter(wrong), -1, 1);
            Twins.refused("leave(" + wrong + ")", () -> entries(5), bank -> bank.leave(wrong), -1, 1);
        }
    }

    /** Promise 28: "An ENTRY goes (those behind it are one less): how many there are. NONE (STATUS 1): also it is none." */
    private static void entriesGo() {
        for (int t = 0; t < 12; t++) {
            int term = t;
            Twins.acted("leave(" + t + ")", () -> entries(12), bank -> bank.leave(term), 11);
            TermBank bank = entries(12);
            bank.leave(t);
            for (int other = 0; other < 12; other++) {
                Checks.due("which " + other + " is without " + t, bank.term(other, 8), other == t ? -1 : other < t ? other : other - 1);
            }
            Checks.none("the 12th is gone", () -> bank.entry(11));
            Checks.due("it comes again, the last one", bank.enter(t), 12);
            Checks.due("it is", bank.entry(11), t);
        }
        Twins.refused("leave(12), none", () -> entries(12), bank -> bank.leave(12), -1, 1);
        Twins.refused("leave(0) of none", () -> entries(0), bank -> bank.leave(0), -1, 1);
        Twins.acted("the last one goes", () -> entries(1), bank -> bank.leave(0), 0);
    }

    /** Promise 11: "FOUND (bits). NoSuchElementException: also another what." */
    private static void findAsked() {
        for (int what = 0; what < 4; what++) {
            int w = what;
            Twins.asked("find(8, " + what + ")", RuleEdgesTest::some, bank -> bank.find(8, w), 1);
            Twins.noSuch("find(9, " + what + ")", RuleEdgesTest::some, bank -> bank.find(9, w));
            Twins.asked("find of no ENTRIES", () -> entries(0), bank -> bank.find(0, w), 0);
        }
        Twins.noSuch("find(8, 4)", RuleEdgesTest::some, bank -> bank.find(8, 4));
        for (int wrong : WRONG) {
            Twins.noSuch("find(8, " + wrong + ")", RuleEdgesTest::some, bank -> bank.find(8, wrong));
            Twins.noSuch("find(" + wrong + ", 0)", RuleEdgesTest::some, bank -> bank.find(wrong, 0));
        }
    }

    private static void found(TermBank bank, int term, int general, int instances, int alike, int shape) {
        int[] due = {general, instances, alike, shape};
        for (int what = 0; what < 4; what++) {
            Checks.due("find(" + term + ", " + what + ")", bank.find(term, what), due[what]);
        }
    }

    /** "ENTRIES that MATCH it (what 0); that it MATCHES (1) ..; that have its SHAPE (3)": all twelve bits. */
    private static void findMoreGeneral() {
        TermBank bank = entries(12);
        for (int v = 0; v < 8; v++) {
            found(bank, v, 0x0ff, 0xfff, 0xfff, 0x0ff);
        }
        for (int t = 8; t < 13; t++) {
            found(bank, t, 0xfff, 0xf00, 0xfff, 0xf00);
        }
        bank.leave(8);
        found(bank, 8, 0x7ff, 0x700, 0x7ff, 0x700);
        TermBank one = entries(1);
        found(one, 12, 1, 0, 1, 0);
    }

    /** "that can be UNIFIED with it, VARIABLES of both being told apart (2)" */
    private static void findApart() {
        TermBank bank = told("symbol f 2 1;symbol g 1 1;symbol a 0 1;entry f(?0,?0);entry f(?0,g(?0));entry f(g(?0),?1);entry g(?0);entry a;"
            + "entry f(?1,?0);term f(?0,?1);term f(g(?0),?0);term f(?1,a);term f(g(a),g(g(a)));term g(g(?0));");
        // Entries: 0 f(?0,?0), 1 f(?0,g(?0)), 2 f(g(?0),?1), 3 g(?0), 4 a, 5 f(?1,?0).
        int f01 = bank.make(0, 0, bank.variable(1), 0);
        found(bank, f01, 0x20, 0x27, 0x27, 0x21);
        int fg0 = bank.make(0, bank.make(1, 0, 0, 0), 0, 0);
        found(bank, fg0, 0x24, 0, 0x24, 0x04);
        int f1a = bank.make(0, bank.variable(1), bank.make(2, 0, 0, 0), 0);
        found(bank, f1a, 0x20, 0, 0x25, 0);
        int ga = bank.make(1, bank.make(2, 0, 0, 0), 0, 0);
        found(bank, bank.make(0, ga, bank.make(1, ga, 0, 0), 0), 0x26, 0, 0x26, 0);
        found(bank, bank.make(1, bank.make(1, 0, 0, 0), 0, 0), 0x08, 0, 0x08, 0);
        found(bank, bank.make(2, 0, 0, 0), 0x10, 0x10, 0x10, 0x10);
        found(bank, bank.variable(7), 0, 0x3f, 0x3f, 0);
    }
}
