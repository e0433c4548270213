/** What the document bounds of symbols, variables, terms, places (parts 1 and 2): on each bound, and beyond it. */
public final class TermEdgesTest {
    private static final int[] WRONG = {-1, -2, -3, Integer.MIN_VALUE, Integer.MAX_VALUE};
    private static final String SOME = "symbol a 0 1;symbol f 2 2;symbol g 1 1;symbol h 3 5;term h(f(?0,g(a)),?1,a);"
        + "rule g(g(?0)) to ?0;entry f(?1,?1);room 3;";

    private TermEdgesTest() { }

    public static void main(String[] args) {
        countsAsked();
        symbolsAsked();
        termsAsked();
        argumentsAsked();
        placesAsked();
        sizesAndShares();
        usersOfTerms();
        shapes();
        shapesOfManyTerms();
        variablesMade();
        termsMade();
        argumentsNotLookedAt();
        likeTermsAreOne();
        depthOfMade();
        depthOfApplied();
        depthOfEachArgument();
        depthOfClosed();
        depthOfUnified();
        depthOfNormal();
        depthOfPut();
        deepestAsked();
        fourHundredByMaking();
        fourHundredByApplying();
        fourHundredByUnifying();
        fourHundredByCommon();
        fourHundredByNormal();
        fourHundredByPutting();
        fourHundredByDrawing();
        fourHundredByYears();
        fourHundredAndNoMore();
        Checks.end();
    }

    /** Terms: 0 ?0, 1 a, 2 g(a), 3 f(?0,g(a)), 4 ?1, 5 h(..), 6 g(?0), 7 g(g(?0)), 8 f(?1,?1). */
    private static TermBank some() {
        TermBank bank = new TermBank();
        Checks.told(bank, SOME);
        bank.bind(6, 3);
        bank.normal(2);
        bank.image();
        bank.variable(0);
        return bank;
    }

    /** Promise 5: "0 SYMBOLS .. 13 to 16 STATUS 0 to 3. NoSuchElementException: another what." */
    private static void countsAsked() {
        int[] due = {4, 9, 1, 1, 3, 2, 0, 0, 8, 1, 10, 3, 0, 0, 0, 0, 0};
        for (int what = 0; what < due.length; what++) {
            int w = what;
            Twins.asked("count(" + what + ")", TermEdgesTest::some, bank -> bank.count(w), due[what]);
        }
        for (int wrong : WRONG) {
            Twins.noSuch("count(" + wrong + ")", TermEdgesTest::some, bank -> bank.count(wrong));
        }
        Twins.noSuch("count(17)", TermEdgesTest::some, bank -> bank.count(17));
    }

    /** Promise 6: "Of a SYMBOL: 0 its NAME's letter .. 4 the least (NONE). NoSuchElementException: no such SYMBOL, another what." */
    private static void symbolsAsked() {
        int[][] due = {{'a', 0, 1, 9, 1}, {'f', 2, 2, 9, 1}, {'g', 1, 1, 9, 1}, {'h', 3, 5, 9, 1}};
        for (int k = 0; k < due.length; k++) {
            for (int what = 0; what < 5; what++) {
                int symbol = k;
                int w = what;
                Twins.asked("symbol(" + k + ", " + what + ")", TermEdgesTest::some, bank -> bank.symbol(symbol, w), due[k][what]);
            }
        }
        for (int wrong : WRONG) {
            Twins.noSuch("symbol(" + wrong + ", 0)", TermEdgesTest::some, bank -> bank.symbol(wrong, 0));
            Twins.noSuch("symbol(0, " + wrong + ")", TermEdgesTest::some, bank -> bank.symbol(0, wrong));
            Twins.noSuch("symbol(3, " + wrong + ")", TermEdgesTest::some, bank -> bank.symbol(3, wrong));
        }
        for (int what = 0; what < 6; what++) {
            int w = what;
            Twins.noSuch("symbol(4, " + what + ")", TermEdgesTest::some, bank -> bank.symbol(4, w));
        }
        Twins.noSuch("symbol(0, 5)", TermEdgesTest::some, bank -> bank.symbol(0, 5));
    }

    /** Promise 7: "NoSuchElementException: no such TERM (as everywhere), another what." */
    private static void termsAsked() {
        int[][] due = {{-1, 0, 1, 1, 1, 1, 1, 2, -1, 1}, {0, -1, 1, 1, 1, 1, 0, 2, -1, 1}, {2, -1, 2, 2, 2, 2, 0, 1, -1, 1},
            {1, -1, 4, 4, 3, 5, 1, 1, -1, 1}, {-1, 1, 1, 1, 1, 1, 2, 2, -1, 1}, {3, -1, 7, 6, 4, 12, 3, 0, -1, 1},
            {2, -1, 2, 2, 2, 2, 1, 1, -1, 1}, {2, -1, 3, 3, 3, 3, 1, 0, -1, 0}, {1, -1, 3, 2, 2, 4, 2, 0, 0, 1}};
        for (int k = 0; k < due.length; k++) {
            for (int what = 0; what < 10; what++) {
                int term = k;
                int w = what;
                Twins.asked("term(" + k + ", " + what + ")", TermEdgesTest::some, bank -> bank.term(term, w), due[k][what]);
            }
        }
        for (int wrong : WRONG) {
            Twins.noSuch("term(" + wrong + ", 0)", TermEdgesTest::some, bank -> bank.term(wrong, 0));
            Twins.noSuch("term(8, " + wrong + ")", TermEdgesTest::some, bank -> bank.term(8, wrong));
        }
        for (int what = 0; what < 11; what++) {
            int w = what;
            Twins.noSuch("term(9, " + what + ")", TermEdgesTest::some, bank -> bank.term(9, w));
        }
        Twins.noSuch("term(0, 10)", TermEdgesTest::some, bank -> bank.term(0, 10));
    }

    /** Promise 8: "The i-th ARGUMENT of a TERM (0 on). NoSuchElementException: also there is none." */
    private static void argumentsAsked() {
        int[] arities = {0, 0, 1, 2, 0, 3, 1, 1, 2};
        int[][] due = {{}, {}, {1}, {0, 2}, {}, {3, 4, 1}, {0}, {6}, {4, 4}};
        for (int k = 0; k < arities.length; k++) {
            int term = k;
            for (int i = 0; i < arities[k]; i++) {
                int which = i;
                Twins.asked("argument(" + k + ", " + i + ")", TermEdgesTest::some, bank -> bank.argument(term, which), due[k][i]);
            }
            Twins.noSuch("argument(" + k + ", " + arities[k] + ")", TermEdgesTest::some, bank -> bank.argument(term, arities[term]));
            Twins.noSuch("argument(" + k + ", -1)", TermEdgesTest::some, bank -> bank.argument(term, -1));
        }
        for (int wrong : WRONG) {
            Twins.noSuch("argument(5, " + wrong + ")", TermEdgesTest::some, bank -> bank.argument(5, wrong));
            Twins.noSuch("argument(" + wrong + ", 0)", TermEdgesTest::some, bank -> bank.argument(wrong, 0));
        }
        Twins.noSuch("argument(9, 0)", TermEdgesTest::some, bank -> bank.argument(9, 0));
    }

    /** "PLACES: 0 is the TERM itself, then those of its first ARGUMENT, and on." Promise 9: "also there is none." */
    private static void placesAsked() {
        int[][] due = {{0}, {1}, {2, 1}, {3, 0, 2, 1}, {4}, {5, 3, 0, 2, 1, 4, 1}, {6, 0}, {7, 6, 0}, {8, 4, 4}};
        for (int k = 0; k < due.length; k++) {
            int term = k;
            for (int place = 0; place < due[k].length; place++) {
                int at = place;
                Twins.asked("place(" + k + ", " + place + ")", TermEdgesTest::some, bank -> bank.place(term, at), due[k][place]);
            }
            Twins.noSuch("a place beyond of " + k, TermEdgesTest::some, bank -> bank.place(term, due[term].length));
            Twins.noSuch("place -1 of " + k, TermEdgesTest::some, bank -> bank.place(term, -1));
        }
        for (int wrong : WRONG) {
            Twins.noSuch("place(5, " + wrong + ")", TermEdgesTest::some, bank -> bank.place(5, wrong));
            Twins.noSuch("place(" + wrong + ", 0)", TermEdgesTest::some, bank -> bank.place(wrong, 0));
        }
        Twins.noSuch("place(9, 0)", TermEdgesTest::some, bank -> bank.place(9, 0));
    }

    /** "SIZE .. each as often as it stands in it, itself, too; SHARED: each once. WEIGHT: of all that SIZE counts, together." */
    private static void sizesAndShares() {
        TermBank bank = Checks.bankOf("symbol f 3 9;symbol c 0 9;term f(c,c,c);");
        int[] sizes = {1, 4, 13, 40, 121, 364};
        int t = 1;
        for (int depth = 2; depth <= 6; depth++) {
            Checks.due("SIZE of depth " + depth, bank.term(t, 2), sizes[depth - 1]);
            Checks.due("SHARED of depth " + depth, bank.term(t, 3), depth);
            Checks.due("DEPTH", bank.term(t, 4), depth);
            Checks.due("WEIGHT of depth " + depth, bank.term(t, 5), 9 * sizes[depth - 1]);
            int last = t;
            Checks.due("its last place", bank.place(t, sizes[depth - 1] - 1), 0);
            Checks.none("the place beyond", () -> bank.place(last, sizes[bank.term(last, 4) - 1]));
            t = bank.make(0, t, t, t);
        }
        Checks.due("no deeper one", t, -3);
        // Numbers that are not the first ones: a term at 0 that others don't have in them counts nowhere.
        TermBank other = Checks.bankOf("symbol g 1 2;term ?0;term g(g(?7));");
        Checks.due("SHARED without ?0", other.term(3, 3), 3);
        Checks.due("WEIGHT: VARIABLES are of WEIGHT 1", other.term(3, 5), 5);
        Checks.due("VARIABLE 7 (bits)", other.term(3, 6), 128);
        Checks.due("VARIABLE 0 (bits)", other.term(0, 6), 1);
        // The widest sharing: a term that stands in all three places, once with another one.
        TermBank wide = Checks.bankOf("symbol f 3 1;symbol c 0 1;term f(c,f(c,c,c),f(f(c,c,c),c,?5));");
        Checks.due("SIZE", wide.term(4, 2), 13);
        Checks.due("SHARED", wide.term(4, 3), 5);
    }

    /** "7 in how many TERMS it is an ARGUMENT": as the first, second, third, as all of them, as none. */
    private static void usersOfTerms() {
        TermBank bank = Checks.bankOf("symbol h 3 1;symbol g 1 1;term h(?0,?1,?2);");
        int[] due = {1, 1, 1, 0};
        for (int t = 0; t < 4; t++) {
            Checks.due("users of " + t, bank.term(t, 7), due[t]);
        }
        bank.make(0, 2, 2, 2);
        Checks.due("thrice in one counts once", bank.term(2, 7), 2);
        bank.make(0, 0, 2, 0);
        Checks.due("as the second one", bank.term(2, 7), 3);
        Checks.due("twice in one counts once", bank.term(0, 7), 2);
        bank.make(1, 4, 0, 0);
        Checks.due("what stands deeper is no ARGUMENT", bank.term(2, 7), 3);
        Checks.due("the last one is none", bank.term(6, 7), 0);
        bank.undo();
        Checks.due("none by what is gone", bank.term(4, 7), 0);
    }

    /** "SHAPE: two TERMS have the same, if they are alike with all VARIABLES as one." */
    private static void shapes() {
        TermBank bank = Checks.bankOf("symbol f 2 1;symbol a 0 1;symbol g 1 1;symbol b 0 1;");
        int x = bank.variable(0);
        int y = bank.variable(7);
        int a = bank.make(1, 0, 0, 0);
        int b = bank.make(3, 0, 0, 0);
        Checks.due("?0, ?7; a; b", bank.count(8), 3);
        int[] terms = {x, y, a, b};
        for (int s : terms) {
            for (int t : terms) {
                bank.make(0, s, t, 0);
            }
        }
        Checks.due("and f of two of ?, a, b", bank.count(8), 12);
        Checks.due("of 20 terms", bank.count(1), 20);
        int ga = bank.make(2, a, 0, 0);
        bank.make(2, x, 0, 0);
        bank.make(2, y, 0, 0);
        bank.make(2, b, 0, 0);
        Checks.due("and g of each", bank.count(8), 15);
        bank.enter(bank.make(0, ga, x, 0));
        bank.enter(bank.make(0, ga, y, 0));
        bank.enter(bank.make(0, bank.make(2, x, 0, 0), y, 0));
        Checks.due("of the shape of f(g(a),?)", bank.find(bank.entry(1), 3), 3);
        Checks.due("of the shape of f(g(?),?)", bank.find(bank.make(0, bank.make(2, y, 0, 0), y, 0), 3), 4);
        Checks.due("of no entry's", bank.find(a, 3), 0);
        // A constant that came ahead of all VARIABLES has another SHAPE than they, whatever its number is.
        TermBank first = Checks.bankOf("symbol a 0 1;symbol b 0 1;term a;term b;entry ?3;entry a;entry ?0;entry b;");
        Checks.due("a; b; ?", first.count(8), 3);
        Checks.due("of a's", first.find(0, 3), 2);
        Checks.due("of b's", first.find(1, 3), 8);
        Checks.due("of a VARIABLE's", first.find(first.entry(2), 3), 5);
    }

    /** Of a, b, c, ?0, ?1 all three in h: with both VARIABLES as one 4 SHAPES, and 64 of h. */
    private static void shapesOfManyTerms() {
        TermBank bank = Checks.bankOf("symbol h 3 1;symbol a 0 1;symbol b 0 1;symbol c 0 1;term a;term b;term c;term ?0;term ?1;");
        for (int k = 0; k < 125; k++) {
            Checks.due("h no. " + k, bank.make(0, k / 25, k / 5 % 5, k % 5), 5 + k);
        }
        Checks.due("68 SHAPES", bank.count(8), 68);
        bank.enter(5 + 18);
        bank.enter(5 + 19);
        bank.enter(5 + 93);
        bank.enter(5 + 17);
        Checks.due("h(a,?0,?1) is of the SHAPE of h(a,?0,?0)", bank.find(5 + 19, 3), 3);
        Checks.due("h(?0,?0,?0) is of none other", bank.find(5 + 93, 3), 4);
        Checks.due("h(a,?0,c)", bank.find(5 + 17, 3), 8);
        // 36 terms go: those with ?1 first, whose SHAPES are there still, and with ?0 first, of which 4 are not.
        for (int k = 0; k < 40; k++) {
            bank.undo();
        }
        Checks.due("terms left", bank.count(1), 94);
        Checks.due("SHAPES left", bank.count(8), 64);
        // Eight constants, 300 of h, and g of some of them: as many SHAPES as TERMS.
        StringBuilder text = new StringBuilder("symbol h 3 1;symbol g 1 1;");
        for (char name = 'i'; name < 'q'; name++) {
            text.append("symbol ").append(name).append(" 0 1;term ").append(name).append(';');
        }
        TermBank all = Checks.bankOf(text.toString());
        for (int k = 0; k < 300; k++) {
            all.make(0, k % 8, k / 8 % 8, k / 64);
        }
        for (int k = 0; k < 46; k++) {
            all.make(1, k, 0, 0);
            all.make(1, 240 + k, 0, 0);
        }
        Checks.due("400 TERMS", all.count(1), 400);
        Checks.due("400 SHAPES", all.count(8), 400);
    }

    /** "VARIABLES 0 to 7"; promise 16: "NONE (STATUS 1): no such VARIABLE." */
    private static void variablesMade() {
        for (int v = 0; v < 8; v++) {
            int variable = v;
            Twins.acted("variable(" + v + ") of a new object", TermBank::new, bank -> bank.variable(variable), 0);
            TermBank bank = new TermBank();
            bank.variable(7 - v);
            Checks.due("one TERM", bank.count(1), 1);
            Checks.due("it is there", bank.variable(7 - v), 0);
            Checks.due("the next one", bank.variable((v + 4) % 8 == 7 - v ? v : (v + 4) % 8), 1);
        }
        for (int v = 2; v < 8; v++) {
            int variable = v;
            Twins.acted("variable(" + v + ")", TermEdgesTest::some, bank -> bank.variable(variable), 9);
        }
        Twins.acted("variable(0), there", TermEdgesTest::some, bank -> bank.variable(0), 0);
        Twins.acted("variable(1), there", TermEdgesTest::some, bank -> bank.variable(1), 4);
        Twins.refused("variable(8)", TermEdgesTest::some, bank -> bank.variable(8), -1, 1);
        Twins.refused("variable(9)", TermEdgesTest::some, bank -> bank.variable(9), -1, 1);
        for (int wrong : WRONG) {
            Twins.refused("variable(" + wrong + ")", TermEdgesTest::some, bank -> bank.variable(wrong), -1, 1);
        }
    }

    /** Promise 17: "NONE (STATUS 1): no such SYMBOL, TERMS." */
    private static void termsMade() {
        Twins.acted("make a, there", TermEdgesTest::some, bank -> bank.make(0, 0, 0, 0), 1);
        Twins.acted("make f(h,h)", TermEdgesTest::some, bank -> bank.make(1, 5, 5, 0), 9);
        Twins.acted("make g of the last term", TermEdgesTest::some, bank -> bank.make(2, 8, 0, 0), 9);
        Twins.acted("make h of the last term", TermEdgesTest::some, bank -> bank.make(3, 8, 8, 8), 9);
        Twins.acted("make h of the first term", TermEdgesTest::some, bank -> bank.make(3, 0, 0, 0), 9);
        Twins.refused("make(4, ..)", TermEdgesTest::some, bank -> bank.make(4, 0, 0, 0), -1, 1);
        for (int wrong : new int[] {9, 10, -1, -2, -3, Integer.MIN_VALUE, Integer.MAX_VALUE}) {
            Twins.refused("no such first of 1: " + wrong, TermEdgesTest::some, bank -> bank.make(2, wrong, 0, 0), -1, 1);
            Twins.refused("no such first of 2: " + wrong, TermEdgesTest::some, bank -> bank.make(1, wrong, 0, 0), -1, 1);
            Twins.refused("no such second of 2: " + wrong, TermEdgesTest::some, bank -> bank.make(1, 0, wrong, 0), -1, 1);
            Twins.refused("no such first of 3: " + wrong, TermEdgesTest::some, bank -> bank.make(3, wrong, 0, 0), -1, 1);
            Twins.refused("no such second of 3: " + wrong, TermEdgesTest::some, bank -> bank.make(3, 0, wrong, 0), -1, 1);
            Twins.refused("no such third of 3: " + wrong, TermEdgesTest::some, bank -> bank.make(3, 0, 0, wrong), -1, 1);
            Twins.refused("no such SYMBOL: " + wrong, TermEdgesTest::some, bank -> bank.make(wrong, 0, 0, 0), -1, 1);
        }
        Twins.refused("a SYMBOL of none", TermBank::new, bank -> bank.make(0, 0, 0, 0), -1, 1);
    }

    /** "(those beyond its ARITY aren't looked at)" */
    private static void argumentsNotLookedAt() {
        for (int any : new int[] {9, -1, -3, 0, Integer.MIN_VALUE, Integer.MAX_VALUE}) {
            Twins.acted("a beside " + any, TermEdgesTest::some, bank -> bank.make(0, any, any, any), 1);
            Twins.acted("g(a) beside " + any, TermEdgesTest::some, bank -> bank.make(2, 1, any, any), 2);
            Twins.acted("g(?1) beside " + any, TermEdgesTest::some, bank -> bank.make(2, 4, any, any), 9);
            Twins.acted("f(?0,g(a)) beside " + any, TermEdgesTest::some, bank -> bank.make(1, 0, 2, any), 3);
            TermBank bank = some();
            bank.make(2, 4, any, any);
            bank.make(1, 0, 1, any);
            Checks.due("one term, whatever stands beside", bank.make(2, 4, 1, 2), 9);
            Checks.due("one term, whatever stands behind", bank.make(1, 0, 1, 3), 10);
            Checks.due("it is no ARGUMENT", bank.term(3, 7) + 10 * bank.term(5, 7), 1);
        }
        TermBank come = Checks.bankOf("symbol a 0 1;symbol g 1 1;symbol f 2 1;symbol h 3 1;term ?0;term ?1;term ?2;");
        int[][] due = {{0, 0, 0}, {1, 0, 0}, {2, 1, 0}, {3, 2, 1}};
        for (int symbol = 0; symbol < 4; symbol++) {
            Checks.due("it comes, of " + symbol, come.make(symbol, 0, 1, 2), 3 + symbol);
            for (int t = 0; t < 3; t++) {
                Checks.due("users of " + t + " behind " + symbol, come.term(t, 7), due[symbol][t]);
            }
            int arity = symbol;
            Checks.none("no ARGUMENT beyond " + arity, () -> come.argument(3 + arity, arity));
        }
    }

    /** "Like TERMS are one .. one that is there doesn't come" */
    private static void likeTermsAreOne() {
        TermBank bank = some();
        Checks.due("f(?0,g(a))", bank.make(1, 0, 2, 0), 3);
        Checks.due("f(?0,a) is another one", bank.make(1, 0, 1, 0), 9);
        Checks.due("f(a,?0) is another one", bank.make(1, 1, 0, 0), 10);
        Checks.due("f(?0,?0) is another one than f(?1,?1)", bank.make(1, 0, 0, 0), 11);
        Checks.due("h(?0,a,?1)", bank.make(3, 0, 1, 4), 12);
        Checks.due("h(?0,a,a)", bank.make(3, 0, 1, 1), 13);
        Checks.due("h(?0,?1,a)", bank.make(3, 0, 4, 1), 14);
        Checks.due("h(?0,a,?1) again", bank.make(3, 0, 1, 4), 12);
        Checks.due("acts all the same", bank.count(11), 11);
    }

    private static final String DEEP = "symbol g 1 1;symbol a 0 1;symbol f 2 1;symbol h 3 1;symbol b 0 1;";

    /** The deepest terms, by the text: 0 a, 1 g(a) .. 5 g(g(g(g(g(a))))), 6 ?0, 7 g(?0) .. 11 g(g(g(g(g(?0))))). */
    private static TermBank deep() {
        TermBank bank = new TermBank();
        Checks.told(bank, DEEP + "term g(g(g(g(g(a)))));term g(g(g(g(g(?0)))));");
        bank.bind(3, 5);
        bank.image();
        bank.variable(0);
        return bank;
    }

    /** "DEPTH: 1 without ARGUMENTS, else 1 more than the greatest of theirs; 6 at most. FULL is what would need .. deeper ones." */
    private static void depthOfMade() {
        for (int t = 0; t < 12; t++) {
            int term = t;
            Twins.asked("DEPTH of " + t, TermEdgesTest::deep, bank -> bank.term(term, 4), t % 6 + 1);
        }
        Twins.acted("f(5 deep,a)", TermEdgesTest::deep, bank -> bank.make(2, 4, 0, 0), 12);
        Twins.acted("f(a,5 deep)", TermEdgesTest::deep, bank -> bank.make(2, 0, 10, 0), 12);
        Twins.acted("h(a,a,5 deep)", TermEdgesTest::deep, bank -> bank.make(3, 0, 0, 4), 12);
        Twins.refused("g(6 deep)", TermEdgesTest::deep, bank -> bank.make(0, 5, 0, 0), -3, 2);
        Twins.refused("g(6 deep) of ?0", TermEdgesTest::deep, bank -> bank.make(0, 11, 0, 0), -3, 2);
        Twins.refused("f(6 deep,a)", TermEdgesTest::deep, bank -> bank.make(2, 5, 0, 0), -3, 2);
        Twins.refused("f(a,6 deep)", TermEdgesTest::deep, bank -> bank.make(2, 0, 5, 0), -3, 2);
        Twins.refused("h(6 deep,a,a)", TermEdgesTest::deep, bank -> bank.make(3, 5, 0, 0), -3, 2);
        Twins.refused("h(a,6 deep,a)", TermEdgesTest::deep, bank -> bank.make(3, 0, 5, 0), -3, 2);
        Twins.refused("h(a,a,6 deep)", TermEdgesTest::deep, bank -> bank.make(3, 0, 0, 5), -3, 2);
        Twins.acted("what is 6 deep stands beside", TermEdgesTest::deep, bank -> bank.make(1, 5, 5, 5), 0);
    }

    /** ?0 is bound to a term of a depth; g(.. ?0 ..) of another depth is applied. */
    private static TermBank bound(int depth) {
        TermBank bank = deep();
        bank.bind(0, 6 + depth - 1);
        return bank;
    }

    private static void depthOfApplied() {
        for (int put = 1; put <= 6; put++) {
            int depth = put;
            for (int into = 1; into <= 6; into++) {
                int term = 6 + into - 1;
                String what = put + " deep into " + into + " deep";
                if (put + into <= 7) {
                    Twins.acted(what, () -> bound(depth), bank -> bank.apply(term), 6 + put + into - 2);
                } else {
                    Twins.refused(what, () -> bound(depth), bank -> bank.apply(term), -3, 2);
                }
            }
        }
    }

    /** FULL in any of the ARGUMENTS, by what is APPLIED, CLOSED, put into a PLACE; ?0 has what is 3 deep. */
    private static void depthOfEachArgument() {
        String[] terms = {"g(g(g(g(?0))))", "f(?0,g(g(g(?0))))", "f(g(g(g(?0))),?0)", "h(?0,?0,g(g(g(?0))))", "h(?0,g(g(g(?0))),?0)",
            "h(g(g(g(?0))),?0,?0)", "f(a,f(a,f(a,f(a,?0))))", "h(a,a,h(a,a,h(a,a,h(a,a,?0))))", "h(a,h(a,h(a,h(a,?0,a),a),a),a)"};
        for (String told : terms) {
            Twins.Build build = () -> {
                TermBank bank = new TermBank();
                Checks.told(bank, DEEP + "term g(g(a));term " + told + ";term g(" + told + ");");
                bank.bind(0, bank.argument(2, 0));
                return bank;
            };
            int last = build.bank().count(1) - 1;
            Twins.Build deeper = () -> {
                TermBank bank = build.bank();
                bank.bind(0, 2);
                return bank;
            };
            Twins.refused(told + " applied", build, bank -> bank.apply(last), -3, 2);
            Twins.refused(told + " closed", build, bank -> bank.close(last), -3, 2);
            Twins.refused(told + " applied to what is deeper", deeper, bank -> bank.apply(last - 1), -3, 2);
        }
    }

    /** ?0 has g(g(?1)), ?1 has a term of g and a of a depth. */
    private static TermBank chained(int depth) {
        TermBank bank = deep();
        bank.bind(0, bank.make(0, bank.make(0, bank.variable(1), 0, 0), 0, 0));
        bank.bind(1, depth - 1);
        return bank;
    }

    private static void depthOfClosed() {
        for (int put = 1; put <= 6; put++) {
            int depth = put;
            for (int into = 1; into <= 4; into++) {
                int term = 6 + into - 1;
                String what = "closed, " + put + " deep into 3 deep into " + into + " deep";
                if (put + 2 + into <= 7) {
                    Twins.acted(what, () -> chained(depth), bank -> bank.close(term), put + into);
                } else {
                    Twins.refused(what, () -> chained(depth), bank -> bank.close(term), -3, 2);
                }
            }
        }
        // What is in between may be of any depth: a VARIABLE leads by all others to what is 6 deep.
        TermBank bank = deep();
        int[] v = new int[8];
        for (int k = 0; k < 8; k++) {
            v[k] = bank.variable(k);
        }
        bank.bind(3, -1);
        for (int k = 0; k < 7; k++) {
            bank.bind(k, v[k + 1]);
        }
        bank.bind(7, 5);
        Checks.due("?0 by eight BINDINGS", bank.close(v[0]), 5);
        bank.bind(7, 4);
        Checks.due("g(?0) by eight BINDINGS", bank.close(7), 5);
        Checks.due("g(g(?0)) would be 7 deep", bank.close(8), -3);
    }

    /** f(?0,?1) and f(g(g(?1)),g(.. a ..)): ?0 would be two deeper than what ?1 is. */
    private static TermBank pair(int depth) {
        TermBank bank = deep();
        int one = bank.variable(1);
        int left = bank.make(2, 6, one, 0);
        int right = bank.make(2, bank.make(0, bank.make(0, one, 0, 0), 0, 0), depth - 1, 0);
        Checks.due("left of the pair", left, 13);
        Checks.due("right of the pair", right, 16);
        return bank;
    }

    private static void depthOfUnified() {
        for (int put = 1; put <= 5; put++) {
            int depth = put;
            if (put <= 4) {
                Twins.acted("unify: 2 more than " + put, () -> pair(depth), bank -> bank.unify(13, 16), 1);
                TermBank bank = pair(depth);
                bank.unify(13, 16);
                Checks.due("what ?0 is", bank.bound(0), depth + 1);
                Checks.due("what ?1 is", bank.bound(1), depth - 1);
                Checks.due("others are none", bank.bound(3), -1);
            } else {
                Twins.refused("unify: 2 more than " + put, () -> pair(depth), bank -> bank.unify(13, 16), -3, 2);
            }
        }
        // The arguments need be alike, too: 6 deep ones unlike at the 6th level alone.
        Twins.acted("6 deep with 6 deep", TermEdgesTest::deep, bank -> bank.unify(5, 11), 1);
        Twins.refused("6 deep with 5 deep", TermEdgesTest::deep, bank -> bank.unify(4, 5), 0, 3);
        Twins.refused("6 deep with 5 deep of ?0", TermEdgesTest::deep, bank -> bank.unify(10, 11), 2, 3);
    }

    /** q(?0,?0,?0) becomes f(g(?0),?0), one deeper, though it gets less. */
    private static TermBank deepening() {
        TermBank bank = new TermBank();
        Checks.told(bank, DEEP + "symbol q 3 9;rule q(?0,?0,?0) to f(g(?0),?0);term g(g(g(g(a))));");
        int four = bank.count(1) - 2;
        bank.make(5, four, four, four);
        bank.make(5, four + 1, four + 1, four + 1);
        bank.make(0, bank.count(1) - 2, 0, 0);
        return bank;
    }

    private static void depthOfNormal() {
        TermBank bank = deepening();
        int last = bank.count(1) - 1;
        Checks.due("q of 4 deep", bank.term(last - 2, 4), 5);
        Checks.due("q of 5 deep", bank.term(last - 1, 4), 6);
        Checks.due("g of q of 4 deep", bank.term(last, 4), 6);
        Twins.acted("6 deep by a STEP", TermEdgesTest::deepening, b -> b.normal(last - 2), last + 1);
        Twins.refused("7 deep by a STEP", TermEdgesTest::deepening, b -> b.normal(last - 1), -3, 2);
        Twins.refused("7 deep round a STEP", TermEdgesTest::deepening, b -> b.normal(last), -3, 2);
        // A STEP at the deepest place.
        TermBank low = Checks.bankOf("symbol a 0 1;symbol b 0 1;symbol g 1 1;rule b to a;term g(g(g(g(g(b)))));term g(g(g(g(g(a)))));");
        Checks.due("a STEP 6 deep", low.normal(6), 11);
        Checks.due("one STEP", low.count(7), 1);
    }

    private static void depthOfPut() {
        for (int other = 1; other <= 6; other++) {
            for (int place = 0; place <= 5; place++) {
                int term = 6 + other - 1;
                int at = place;
                String what = other + " deep put into place " + place;
                if (other + place <= 6) {
                    Twins.acted(what, TermEdgesTest::deep, bank -> bank.put(5, at, term), 6 + other + place - 1);
                } else {
                    Twins.refused(what, TermEdgesTest::deep, bank -> bank.put(5, at, term), -3, 2);
                }
            }
            int term = other;
            Twins.refused("no such place", TermEdgesTest::deep, bank -> bank.put(5, 6, term), -1, 1);
        }
    }

    /** What is told of the deepest terms looks at their 6th level, too. */
    private static void deepestAsked() {
        for (int k = 0; k < 6; k++) {
            int at = k;
            Twins.asked("place " + k + " of 6 deep", TermEdgesTest::deep, bank -> bank.place(5, at), 5 - k);
        }
        TermBank bank = deep();
        int b = bank.make(4, 0, 0, 0);
        int other = b;
        for (int k = 0; k < 5; k++) {
            other = bank.make(0, other, 0, 0);
        }
        Checks.due("b is GREATER than a, 6 deep", bank.order(other, 5), 1);
        Checks.due("a isn't", bank.order(5, other), 2);
        Checks.due("?0 and a, 6 deep: neither", bank.order(5, 11), 3);
        deepestWeighed();
        Checks.due("MATCH 6 deep", bank.match(11, other), 1);
        Checks.due("?0 is b", bank.bound(0), b);
        Checks.due("no MATCH 6 deep", bank.match(5, other), 0);
        Checks.due("COMMON 6 deep", bank.common(5, other), 11);
        Checks.due("a CLASH 6 deep", bank.unify(5, other), 0);
        Checks.due("APPLIED 6 deep", bank.apply(11), other);
        Checks.due("CLOSED 6 deep", bank.close(11), other);
        bank.enter(11);
        bank.enter(other);
        bank.enter(5);
        Checks.due("FOUND: more general", bank.find(5, 0), 5);
        Checks.due("FOUND: instances", bank.find(11, 1), 7);
        Checks.due("FOUND: can be made alike", bank.find(other, 2), 3);
        Checks.due("FOUND: of the shape", bank.find(other, 3), 2);
        bank.rules(5, 0);
        Checks.due("a RULE 6 deep", bank.normal(5), 0);
        Checks.due("a STEP in it", bank.term(5, 9), 0);
        Checks.due("none in the other one", bank.term(other, 9), 1);
        Checks.due("SHARED", bank.term(other, 3), 6);
    }

    /** What stands at the 6th level is weighed, and its VARIABLES count. */
    private static void deepestWeighed() {
        TermBank bank = Checks.bankOf("symbol a 0 1;symbol b 0 1;symbol c 0 2;symbol g 1 1;symbol f 2 1;term f(a,g(g(g(g(c)))));"
            + "term f(b,g(g(g(g(a)))));term f(c,g(g(g(g(a)))));term f(a,g(g(g(g(?0)))));");
        int[] tops = new int[4];
        int k = 0;
        for (int t = 0; t < bank.count(1); t++) {
            if (bank.term(t, 4) == 6) {
                tops[k] = t;
                k++;
            }
        }
        Checks.due("four 6 deep", k, 4);
        Checks.due("heavier at the 6th level alone", bank.order(tops[0], tops[1]), 1);
        Checks.due("and back", bank.order(tops[1], tops[0]), 2);
        Checks.due("heavier, but without the VARIABLE of the 6th level", bank.order(tops[2], tops[3]), 3);
        Checks.due("WEIGHT", bank.term(tops[0], 5), 8);
    }

    /** "400 at most. FULL is what would need more TERMS": the 400th comes, the 401st doesn't. */
    private static void fourHundredByMaking() {
        Twins.acted("variable(2), the 400th", () -> Great.of(399), bank -> bank.variable(2), 399);
        Twins.refused("variable(2), the 401st", () -> Great.of(400), bank -> bank.variable(2), -3, 2);
        Twins.refused("variable(7), the 401st", () -> Great.of(400), bank -> bank.variable(7), -3, 2);
        Twins.refused("variable(8), though FULL", () -> Great.of(400), bank -> bank.variable(8), -1, 1);
        Twins.acted("g(a), the 400th", () -> Great.of(399), bank -> bank.make(Great.G, Great.CONSTANT, 0, 0), 399);
        Twins.refused("g(a), the 401st", () -> Great.of(400), bank -> bank.make(Great.G, Great.CONSTANT, 0, 0), -3, 2);
        Twins.refused("g(of the 401st), though FULL", () -> Great.of(400), bank -> bank.make(Great.G, 400, 0, 0), -1, 1);
        Twins.acted("g of the 400th", () -> Great.of(399), bank -> bank.make(Great.S, 398, 0, 0), 399);
    }

    private static TermBank greatBound(int n) {
        TermBank bank = Great.of(n);
        bank.bind(0, Great.ONE);
        bank.bind(3, Great.ZERO);
        return bank;
    }

    private static void fourHundredByApplying() {
        Twins.acted("g(?1), the 400th", () -> greatBound(399), bank -> bank.apply(Great.GZ), 399);
        Twins.refused("g(?1), the 401st", () -> greatBound(400), bank -> bank.apply(Great.GZ), -3, 2);
        Twins.acted("g(?1), f(?1,?1,g(?1)), two", () -> greatBound(398), bank -> bank.apply(Great.FZ), 399);
        Twins.refused("of two one too many", () -> greatBound(399), bank -> bank.apply(Great.FZ), -3, 2);
        Twins.refused("of two both too many", () -> greatBound(400), bank -> bank.apply(Great.FZ), -3, 2);
        Twins.acted("?1, there", () -> greatBound(400), bank -> bank.apply(Great.ZERO), Great.ONE);
        Twins.acted("g(?1), closed, the 400th", () -> greatBound(399), bank -> bank.close(Great.GZ), 399);
        Twins.refused("g(?1), closed, the 401st", () -> greatBound(400), bank -> bank.close(Great.GZ), -3, 2);
        Twins.refused("closed, of two one too many", () -> greatBound(399), bank -> bank.close(Great.FZ), -3, 2);
        Twins.acted("?3, closed, is ?1", () -> greatBound(400), bank -> bank.close(Great.THREE), Great.ONE);
        // r(?3) is r(?1) when it is closed; r(?0) in between isn't needed.
        Twins.acted("r(?1), closed, the 400th", () -> greatBound(399), bank -> bank.close(18), 399);
    }

    private static void fourHundredByUnifying() {
        // p(?0,?3) with p(r(?3),a): ?0 is r(a), which comes.
        Twins.acted("r(a), the 400th", () -> greatBound(399), bank -> bank.unify(Great.PAIR, Great.MADE), 1);
        TermBank bank = greatBound(399);
        bank.unify(Great.PAIR, Great.MADE);
        Twins.same("bound then", Twins.bounds(bank), " 399 -1 -1 19 -1 -1 -1 -1");
        Twins.refused("r(a), the 401st", () -> greatBound(400), b -> b.unify(Great.PAIR, Great.MADE), -3, 2);
        Twins.acted("nothing comes", () -> greatBound(400), b -> b.unify(Great.ZERO, Great.S1), 1);
        Twins.acted("MATCHED, nothing comes", () -> greatBound(400), b -> b.match(Great.SZ, Great.SAB), 1);
    }

    private static void fourHundredByCommon() {
        Twins.acted("s(p(?0,?1)), the 400th", () -> Great.of(399), bank -> bank.common(Great.SAB, Great.SBA), 399);
        Twins.refused("s(p(?0,?1)), the 401st", () -> Great.of(400), bank -> bank.common(Great.SAB, Great.SBA), -3, 2);
        Twins.acted("COMMON that is there", () -> Great.of(400), bank -> bank.common(Great.TOP, Great.TOP), Great.TOP);
        Twins.acted("COMMON of unlike ones", () -> Great.of(400), bank -> bank.common(Great.CONSTANT, 21), Great.ZERO);
    }

    private static TermBank greatMemo(int n) {
        TermBank bank = Great.of(n);
        bank.normal(Great.SZ);
        return bank;
    }

    private static void fourHundredByNormal() {
        Twins.acted("NORMAL g(?1), the 400th", () -> greatMemo(399), bank -> bank.normal(Great.S1), 399);
        Twins.refused("NORMAL g(?1), the 401st", () -> greatMemo(400), bank -> bank.normal(Great.S1), -3, 2);
        // s(s(?1)): g(?1), s(g(?1)), g(g(?1)) come.
        Twins.acted("three come", () -> greatMemo(397), bank -> bank.normal(Great.SS1), 399);
        Twins.refused("one of three too many", () -> greatMemo(398), bank -> bank.normal(Great.SS1), -3, 2);
        Twins.refused("two of three too many", () -> greatMemo(399), bank -> bank.normal(Great.SS1), -3, 2);
        Twins.acted("a HIT needs none", () -> greatMemo(400), bank -> bank.normal(Great.SZ), Great.GZ);
        Twins.acted("NORMAL that is there", () -> greatMemo(400), bank -> bank.normal(Great.TOP), Great.TOP);
    }

    private static void fourHundredByPutting() {
        Twins.acted("g(a), put, the 400th", () -> Great.of(399), bank -> bank.put(Great.GZ, 1, Great.CONSTANT), 399);
        Twins.refused("g(a), put, the 401st", () -> Great.of(400), bank -> bank.put(Great.GZ, 1, Great.CONSTANT), -3, 2);
        // f(?0,?0,g(a)): g(a) comes, then it.
        Twins.acted("put, two come", () -> Great.of(398), bank -> bank.put(Great.FZ, 4, Great.CONSTANT), 399);
        Twins.refused("put, of two one too many", () -> Great.of(399), bank -> bank.put(Great.FZ, 4, Great.CONSTANT), -3, 2);
        Twins.acted("put what is there", () -> Great.of(400), bank -> bank.put(Great.TOP, 0, 399), 399);
        Twins.acted("put the same", () -> Great.of(400), bank -> bank.put(Great.TOP, 39, Great.ZERO), Great.TOP);
        Twins.refused("no such place, though FULL", () -> Great.of(400), bank -> bank.put(Great.TOP, 42, Great.ZERO), -1, 1);
    }

    private static void fourHundredByDrawing() {
        int two = Seeds.of(8, 3, 3, 2);
        int zero = Seeds.of(8, 3, 3, 0);
        Twins.acted("?2, drawn, the 400th", () -> Great.of(399), bank -> bank.draw(two, 1), 399);
        Twins.refused("?2, drawn, the 401st", () -> Great.of(400), bank -> bank.draw(two, 1), -3, 2);
        Twins.acted("?0, drawn, there", () -> Great.of(400), bank -> bank.draw(zero, 1), 0);
        // s(g(?2)): three come.
        int three = Seeds.of(8, 1, 7, 6, 8, 1, 7, 2, 8, 0, 3, 2);
        Twins.acted("drawn, three come", () -> Great.of(397), bank -> bank.draw(three, 4), 399);
        Twins.refused("drawn, one of three too many", () -> Great.of(398), bank -> bank.draw(three, 4), -3, 2);
        Twins.refused("drawn, two of three too many", () -> Great.of(399), bank -> bank.draw(three, 4), -3, 2);
        Twins.refused("no such depth, though FULL", () -> Great.of(400), bank -> bank.draw(three, 5), -1, 1);
    }

    /** "(NONE each, if any is FULL ..). All as ever behind it." */
    private static void fourHundredByYears() {
        // ?0, and then ?2, which comes.
        int seed = Seeds.of(8, 0, 3, 0, 8, 0, 3, 2);
        // s(?1) and its NORMAL g(?1), which comes.
        int normal = Seeds.of(8, 1, 7, 6, 8, 0, 3, 1);
        for (int what = 0; what < 3; what++) {
            int w = what;
            Twins.asked("a year of ?0", () -> Great.of(400), bank -> bank.years(seed, 1, w), 0);
            Twins.asked("years of ?0, ?2", () -> Great.of(399), bank -> bank.years(seed, 2, w), 0);
            Twins.asked("years of ?0, ?2 that are FULL", () -> Great.of(400), bank -> bank.years(seed, 2, w), -1);
            Twins.asked("a year of s(?1)", () -> Great.of(399), bank -> bank.years(normal, 1, w), new int[] {8, 0, 1}[w]);
            Twins.asked("a year of s(?1) that is FULL", () -> Great.of(400), bank -> bank.years(normal, 1, w), -1);
            Twins.asked("no years", () -> Great.of(400), bank -> bank.years(seed, 0, w), 0);
        }
    }

    /** With 400 all that needs no more goes on. */
    private static void fourHundredAndNoMore() {
        Twins.acted("variable(0)", () -> Great.of(400), bank -> bank.variable(0), 0);
        Twins.acted("make what is there", () -> Great.of(400), bank -> bank.make(Great.G, 0, 0, 0), Great.GZ);
        Twins.acted("make the 400th again", () -> Great.of(400), bank -> Twins.again(bank, 399), 399);
        Twins.acted("bind the 400th", () -> Great.of(400), bank -> bank.bind(2, 399), -1);
        Twins.refused("bind the 401st", () -> Great.of(400), bank -> bank.bind(2, 400), -2, 1);
        Twins.acted("a RULE", () -> Great.of(400), bank -> bank.rules(Great.S1, Great.ONE), 2);
        Twins.acted("enter the 400th", () -> Great.of(400), bank -> bank.enter(399), 2);
        Twins.refused("enter the 401st", () -> Great.of(400), bank -> bank.enter(400), -1, 1);
        Twins.acted("leave", () -> Great.of(400), bank -> bank.leave(0), 0);
        Twins.acted("room", () -> Great.of(400), bank -> bank.room(9), 4);
        Twins.noSuch("the 401st", () -> Great.of(400), bank -> bank.term(400, 0));
        Twins.asked("the 400th", () -> Great.of(400), bank -> bank.term(399, 7), 0);
        TermBank bank = Great.of(399);
        Checks.due("one can come", bank.variable(2), 399);
        Checks.due("no more", bank.variable(7), -3);
        bank.undo();
        Checks.due("another one can come", bank.variable(7), 399);
        Checks.due("no more then", bank.variable(2), -3);
    }
}
