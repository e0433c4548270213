/** Promises 6 to 15: symbol, term, argument, place, order, find, rule, entry, memo, bound. */
public final class AskingPromisesTest {
    private static final int[] WRONG = {-1, -2, Integer.MIN_VALUE, Integer.MAX_VALUE};
    /** Terms: 0 ?0, 1 a, 2 g(a), 3 f(?0,g(a)), 4 g(?0), 5 g(g(?0)), 6 f(?0,a), 7 ?1, 8 f(?1,?1). */
    private static final String BASE = "symbol a 0 1;symbol f 2 2;symbol g 1 1;term f(?0,g(a));rule g(g(?0)) to ?0;"
        + "rule f(?0,a) to ?0;entry f(?1,?1);entry g(?0);room 3;";

    private AskingPromisesTest() { }

    public static void main(String[] args) {
        symbols();
        fits();
        terms();
        termsShared();
        termsReduced();
        arguments();
        places();
        orders();
        ordersOfLikeWeight();
        finds();
        findsOfManyEntries();
        rules();
        entries();
        memos();
        bounds();
        Checks.end();
    }

    private static void symbols() {
        TermBank bank = Checks.bankOf("symbol z 3 9;symbol a 0 1;");
        int[][] due = {{'z', 3, 9, 9, 1}, {'a', 0, 1, 9, 1}};
        for (int k = 0; k < 2; k++) {
            for (int what = 0; what < 5; what++) {
                Checks.due("symbol(" + k + ", " + what + ")", bank.symbol(k, what), due[k][what]);
            }
        }
        for (int wrong : WRONG) {
            Checks.none("symbol(" + wrong + ", 0)", () -> bank.symbol(wrong, 0));
            Checks.none("symbol(0, " + wrong + ")", () -> bank.symbol(0, wrong));
        }
        Checks.none("symbol(2, 0)", () -> bank.symbol(2, 0));
        Checks.none("symbol(0, 5)", () -> bank.symbol(0, 5));
    }

    private static void fits() {
        // f(?0) to g(?0): f may weigh as much as g or more only if its number is greater.
        TermBank less = Checks.bankOf("symbol f 1 5;symbol g 1 4;rule f(?0) to g(?0);");
        Checks.due("f above g: 5 to 9", less.symbol(0, 3), 5);
        Checks.due("f above g: the least", less.symbol(0, 4), 5);
        Checks.due("g below f: 1 to 4", less.symbol(1, 3), 4);
        Checks.due("g below f: the least", less.symbol(1, 4), 1);
        TermBank more = Checks.bankOf("symbol g 1 4;symbol f 1 5;rule f(?0) to g(?0);");
        Checks.due("f of a greater number: 4 to 9", more.symbol(1, 3), 6);
        Checks.due("f of a greater number: the least", more.symbol(1, 4), 4);
        Checks.due("weight asked is as ever", more.symbol(1, 2), 5);
        Checks.due("order is as ever", more.order(more.rule(0, 0), more.rule(0, 1)), 1);
        TermBank both = Checks.bankOf("symbol a 0 3;symbol b 0 5;symbol c 0 8;rule b to a;rule c to b;");
        Checks.due("between two rules: 3 to 8", both.symbol(1, 3), 6);
        Checks.due("between two rules: the least", both.symbol(1, 4), 3);
        TermBank nine = Checks.bankOf("symbol a 0 9;symbol b 0 9;rule b to a;");
        Checks.due("9 alone", nine.symbol(1, 3), 1);
        Checks.due("9 is the least", nine.symbol(1, 4), 9);
        TermBank counted = Checks.bankOf("symbol a 0 1;symbol f 2 2;symbol g 1 1;rule f(?0,a) to g(g(?0));");
        // f + 1 + a against 1 + 2g; as much is not enough, f being less than g.
        Checks.due("f: more than 1", counted.symbol(1, 3), 8);
        Checks.due("f: the least", counted.symbol(1, 4), 2);
        Checks.due("g: it stands there twice", counted.symbol(2, 3), 1);
        Checks.due("g: the least", counted.symbol(2, 4), 1);
        Checks.due("a: any", counted.symbol(0, 3), 9);
    }

    private static void terms() {
        TermBank bank = Checks.bankOf(BASE);
        // SYMBOL, VARIABLE, SIZE, SHARED, DEPTH, WEIGHT, variables, users, ENTRY, no STEP
        int[][] due = {
            {-1, 0, 1, 1, 1, 1, 1, 3, -1, 1},
            {0, -1, 1, 1, 1, 1, 0, 2, -1, 1},
            {2, -1, 2, 2, 2, 2, 0, 1, -1, 1},
            {1, -1, 4, 4, 3, 5, 1, 0, -1, 1},
            {2, -1, 2, 2, 2, 2, 1, 1, 1, 1},
            {2, -1, 3, 3, 3, 3, 1, 0, -1, 0},
            {1, -1, 3, 3, 2, 4, 1, 0, -1, 0},
            {-1, 1, 1, 1, 1, 1, 2, 1, -1, 1},
            {1, -1, 3, 2, 2, 4, 2, 0, 0, 1},
        };
        for (int t = 0; t < due.length; t++) {
            for (int what = 0; what < 10; what++) {
                Checks.due("term(" + t + ", " + what + ")", bank.term(t, what), due[t][what]);
            }
        }
        for (int wrong : WRONG) {
            Checks.none("term(" + wrong + ", 0)", () -> bank.term(wrong, 0));
            Checks.none("term(0, " + wrong + ")", () -> bank.term(0, wrong));
        }
        Checks.none("term(9, 0)", () -> bank.term(9, 0));
        Checks.none("term(0, 10)", () -> bank.term(0, 10));
    }

    private static void termsShared() {
        TermBank bank = Checks.bankOf("symbol f 3 9;term f(?7,?7,?7);");
        int t = 1;
        for (int k = 0; k < 4; k++) {
            t = bank.make(0, t, t, t);
        }
        Checks.due("the greatest SIZE", bank.term(t, 2), 364);
        Checks.due("SHARED", bank.term(t, 3), 6);
        Checks.due("the greatest DEPTH", bank.term(t, 4), 6);
        Checks.due("the greatest WEIGHT", bank.term(t, 5), 121 * 9 + 243);
        Checks.due("VARIABLE 7 (bits)", bank.term(t, 6), 128);
        Checks.due("an ARGUMENT thrice of one TERM counts once", bank.term(0, 7), 1);
        bank.make(0, 0, 1, 0);
        Checks.due("and of another one", bank.term(0, 7), 2);
    }

    private static void termsReduced() {
        TermBank bank = Checks.bankOf("symbol a 0 1;symbol f 2 1;rule f(?0,?0) to ?0;term f(a,f(a,a));term f(?1,f(?1,?2));");
        // ?0, f(?0,?0), a 2, f(a,a) 3, f(a,f(a,a)) 4, ?1, ?2, f(?1,?2) 7, f(?1,f(?1,?2)) 8
        Checks.due("none in a", bank.term(2, 9), 1);
        Checks.due("a STEP at the top", bank.term(3, 9), 0);
        Checks.due("a STEP inside", bank.term(4, 9), 0);
        Checks.due("unlike VARIABLES don't match like ones", bank.term(8, 9), 1);
        bank.undo();
        Checks.due("a LEFT itself", bank.term(1, 9), 0);
    }

    private static void arguments() {
        TermBank bank = Checks.bankOf(BASE);
        Checks.due("argument(3, 0)", bank.argument(3, 0), 0);
        Checks.due("argument(3, 1)", bank.argument(3, 1), 2);
        Checks.due("argument(2, 0)", bank.argument(2, 0), 1);
        Checks.none("argument(2, 1)", () -> bank.argument(2, 1));
        Checks.none("argument(3, 2)", () -> bank.argument(3, 2));
        Checks.none("argument of a VARIABLE", () -> bank.argument(0, 0));
        Checks.none("argument of a constant", () -> bank.argument(1, 0));
        Checks.none("argument(9, 0)", () -> bank.argument(9, 0));
        for (int wrong : WRONG) {
            Checks.none("argument(3, " + wrong + ")", () -> bank.argument(3, wrong));
            Checks.none("argument(" + wrong + ", 0)", () -> bank.argument(wrong, 0));
        }
    }

    private static void places() {
        TermBank bank = Checks.bankOf("symbol a 0 1;symbol f 2 1;symbol h 3 1;term h(f(a,?0),f(?1,f(?2,a)),?3);");
        // a 0, ?0 1, f(a,?0) 2, ?1 3, ?2 4, f(?2,a) 5, f(?1,..) 6, ?3 7, h 8
        int[] due = {8, 2, 0, 1, 6, 3, 5, 4, 0, 7};
        for (int place = 0; place < due.length; place++) {
            Checks.due("place(8, " + place + ")", bank.place(8, place), due[place]);
        }
        Checks.none("place(8, 10)", () -> bank.place(8, 10));
        Checks.due("place(0, 0)", bank.place(0, 0), 0);
        Checks.none("place(0, 1)", () -> bank.place(0, 1));
        Checks.none("place(9, 0)", () -> bank.place(9, 0));
        for (int wrong : WRONG) {
            Checks.none("place(8, " + wrong + ")", () -> bank.place(8, wrong));
            Checks.none("place(" + wrong + ", 0)", () -> bank.place(wrong, 0));
        }
    }

    private static void orders() {
        TermBank bank = Checks.bankOf(BASE);
        Checks.due("one", bank.order(3, 3), 0);
        Checks.due("heavier, the VARIABLE as often", bank.order(5, 4), 1);
        Checks.due("the other way", bank.order(4, 5), 2);
        Checks.due("two VARIABLES", bank.order(0, 7), 3);
        Checks.due("a VARIABLE and a constant", bank.order(0, 1), 3);
        Checks.due("heavier, but without the VARIABLE", bank.order(3, 7), 3);
        Checks.due("f(?1,?1) over ?1", bank.order(8, 7), 1);
        Checks.due("f(?0,a) and f(?1,?1)", bank.order(6, 8), 3);
        Checks.none("order(0, 9)", () -> bank.order(0, 9));
        Checks.none("order(9, 0)", () -> bank.order(9, 0));
        for (int wrong : WRONG) {
            Checks.none("order(0, " + wrong + ")", () -> bank.order(0, wrong));
            Checks.none("order(" + wrong + ", 0)", () -> bank.order(wrong, 0));
        }
    }

    private static void ordersOfLikeWeight() {
        TermBank bank = Checks.bankOf("symbol a 0 1;symbol b 0 1;symbol c 0 2;symbol f 2 1;symbol g 1 1;");
        int a = bank.make(0, 0, 0, 0);
        int b = bank.make(1, 0, 0, 0);
        int c = bank.make(2, 0, 0, 0);
        int x = bank.variable(0);
        int y = bank.variable(1);
        Checks.due("a, b: the greater number", bank.order(a, b), 2);
        Checks.due("c is heavier", bank.order(c, b), 1);
        Checks.due("c and g(a): the greater number", bank.order(bank.make(4, a, 0, 0), c), 1);
        int ab = bank.make(3, a, b, 0);
        int ba = bank.make(3, b, a, 0);
        Checks.due("f(b,a), f(a,b): the first unlike ones", bank.order(ba, ab), 1);
        Checks.due("f(a,b), f(b,a)", bank.order(ab, ba), 2);
        Checks.due("f(a,b), f(a,a): the second ones", bank.order(ab, bank.make(3, a, a, 0)), 1);
        int deepA = a;
        int deepB = b;
        for (int k = 0; k < 5; k++) {
            deepA = bank.make(4, deepA, 0, 0);
            deepB = bank.make(4, deepB, 0, 0);
        }
        Checks.due("unlike at the 6th level alone", bank.order(deepB, deepA), 1);
        Checks.due("and back", bank.order(deepA, deepB), 2);
        int xy = bank.make(3, x, y, 0);
        int yx = bank.make(3, y, x, 0);
        Checks.due("f(?0,?1), f(?1,?0): neither", bank.order(xy, yx), 3);
        Checks.due("f(b,?0), f(?0,a): b isn't GREATER than ?0", bank.order(bank.make(3, b, x, 0), bank.make(3, x, a, 0)), 3);
        Checks.due("f(g(?0),?1), f(?0,g(?1))", bank.order(bank.make(3, bank.make(4, x, 0, 0), y, 0),
            bank.make(3, x, bank.make(4, y, 0, 0), 0)), 1);
        Checks.due("the VARIABLE must stand as often", bank.order(bank.make(3, c, x, 0), bank.make(3, x, x, 0)), 3);
    }

    private static void finds() {
        TermBank bank = Checks.bankOf(BASE);
        // Entries: 0 is f(?1,?1), 1 is g(?0).
        int[][] due = {{0, 3, 3, 0}, {0, 0, 0, 0}, {2, 0, 2, 0}, {0, 0, 1, 0}, {2, 2, 2, 2}, {2, 0, 2, 0}, {0, 0, 1, 0},
            {0, 3, 3, 0}, {1, 1, 1, 1}};
        for (int t = 0; t < due.length; t++) {
            for (int what = 0; what < 4; what++) {
                Checks.due("find(" + t + ", " + what + ")", bank.find(t, what), due[t][what]);
            }
        }
        for (int wrong : WRONG) {
            Checks.none("find(" + wrong + ", 0)", () -> bank.find(wrong, 0));
            Checks.none("find(0, " + wrong + ")", () -> bank.find(0, wrong));
        }
        Checks.none("find(9, 0)", () -> bank.find(9, 0));
        Checks.none("find(0, 4)", () -> bank.find(0, 4));
        Checks.due("no binding is told by it", bank.bound(1), -1);
        Checks.due("no act, no STATUS", bank.count(11) + bank.count(14) + bank.count(16), 0);
    }

    private static void findsOfManyEntries() {
        StringBuilder text = new StringBuilder("symbol f 2 1;symbol g 1 1;");
        for (int v = 0; v < 8; v++) {
            text.append("entry ?").append(v).append(';');
        }
        text.append("entry f(?0,?1);entry f(?2,?2);entry f(?0,g(?0));entry g(?0);term f(g(?0),?0);");
        TermBank bank = Checks.bankOf(text.toString());
        int t = bank.count(1) - 1;
        Checks.due("more general", bank.find(t, 0), 0x1ff);
        Checks.due("its instances", bank.find(t, 1), 0);
        // f(?2,?2) would put ?0 into g(?0), and so, told apart, would not f(?0,g(?0)).
        Checks.due("made alike, told apart", bank.find(t, 2), 0x1ff);
        Checks.due("of its shape", bank.find(t, 3), 0);
        Checks.due("f(?0,?1) is of the shape of f(?2,?2)", bank.find(bank.entry(8), 3), 0x300);
        Checks.due("all VARIABLES have one shape", bank.find(bank.entry(0), 3), 0xff);
        Checks.due("like VARIABLES are told apart", bank.find(bank.argument(bank.entry(10), 1), 2), 0x8ff);
        bank.leave(bank.entry(0));
        Checks.due("those behind are one less", bank.find(t, 0), 0xff);
    }

    private static void rules() {
        TermBank bank = Checks.bankOf(BASE);
        Checks.due("rule(0, 0)", bank.rule(0, 0), 5);
        Checks.due("rule(0, 1)", bank.rule(0, 1), 0);
        Checks.due("rule(1, 0)", bank.rule(1, 0), 6);
        Checks.due("rule(1, 1)", bank.rule(1, 1), 0);
        Checks.none("rule(2, 0)", () -> bank.rule(2, 0));
        Checks.none("rule(0, 2)", () -> bank.rule(0, 2));
        for (int wrong : WRONG) {
            Checks.none("rule(" + wrong + ", 0)", () -> bank.rule(wrong, 0));
            Checks.none("rule(0, " + wrong + ")", () -> bank.rule(0, wrong));
        }
    }

    private static void entries() {
        TermBank bank = Checks.bankOf(BASE);
        Checks.due("entry(0)", bank.entry(0), 8);
        Checks.due("entry(1)", bank.entry(1), 4);
        Checks.none("entry(2)", () -> bank.entry(2));
        for (int wrong : WRONG) {
            Checks.none("entry(" + wrong + ")", () -> bank.entry(wrong));
        }
        bank.leave(8);
        Checks.due("entry(0) behind leave()", bank.entry(0), 4);
        Checks.none("entry(1) behind leave()", () -> bank.entry(1));
    }

    private static void memos() {
        TermBank bank = Checks.bankOf(BASE);
        Checks.none("memo(0, 0) of none", () -> bank.memo(0, 0));
        bank.normal(5);
        int[][] due = {{4, 4}, {5, 0}};
        for (int i = 0; i < 2; i++) {
            Checks.due("memo(" + i + ", 0)", bank.memo(i, 0), due[i][0]);
            Checks.due("memo(" + i + ", 1)", bank.memo(i, 1), due[i][1]);
        }
        Checks.none("memo(2, 0)", () -> bank.memo(2, 0));
        Checks.none("memo(0, 2)", () -> bank.memo(0, 2));
        for (int wrong : WRONG) {
            Checks.none("memo(" + wrong + ", 0)", () -> bank.memo(wrong, 0));
            Checks.none("memo(0, " + wrong + ")", () -> bank.memo(0, wrong));
        }
    }

    private static void bounds() {
        TermBank bank = Checks.bankOf(BASE);
        bank.bind(7, 3);
        Checks.due("bound(7)", bank.bound(7), 3);
        Checks.due("bound(0)", bank.bound(0), -1);
        Checks.none("bound(8)", () -> bank.bound(8));
        for (int wrong : WRONG) {
            Checks.none("bound(" + wrong + ")", () -> bank.bound(wrong));
        }
    }
}
