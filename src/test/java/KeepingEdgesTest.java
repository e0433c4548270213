/** What the document bounds of acts, draws, years, status, images (part 3, promises 25, 30 to 34). */
public final class KeepingEdgesTest {
    private static final int[] WRONG = {-1, -2, -3, Integer.MIN_VALUE, Integer.MAX_VALUE};
    private static final int[] SEEDS = {0, 1, -1, 2, 12345, -12345, 65535, 65536, 1103515245, -1103515245, Integer.MAX_VALUE,
        Integer.MAX_VALUE - 1, Integer.MIN_VALUE, Integer.MIN_VALUE + 1, 1 << 30, 1 << 16, 987654321, -987654321};
    private static final String SOME = "symbol a 0 1;symbol f 2 2;symbol g 1 1;term f(?0,g(a));rule g(g(?0)) to ?0;"
        + "rule f(?0,a) to ?0;entry f(?1,?1);entry g(?0);room 3;";

    private KeepingEdgesTest() { }

    public static void main(String[] args) {
        actsForty();
        actsOfEachKind();
        refusedAreNoActs();
        undoNone();
        undoneTermsGo();
        statusOfEachKind();
        drawDepths();
        drawSeedsThatWrap();
        drawsInTheirOrder();
        drawsOfSymbols();
        drawsWithoutSymbols();
        putPlaces();
        yearsAsked();
        yearsOfSeeds();
        yearsUseTheMemo();
        yearsOfTheFirstTerm();
        yearsTooMuch();
        imageChangesNothing();
        restoreNone();
        restoreAll();
        restoreOfFortyActs();
        restoreOfTerms();
        faultKeepsTerms();
        imageInPlaceOfAnother();
        imageIsGoneByBank();
        fiveHundredCalls();
        Checks.end();
    }

    /** Terms: 0 ?0, 1 a, 2 g(a), 3 f(?0,g(a)), 4 g(?0), 5 g(g(?0)), 6 f(?0,a), 7 ?1, 8 f(?1,?1). */
    private static TermBank some() {
        TermBank bank = new TermBank();
        Checks.told(bank, SOME);
        bank.normal(2);
        bank.bind(4, 5);
        bank.variable(8);
        bank.image();
        bank.bind(2, 8);
        return bank;
    }

    private static TermBank told(String text) {
        TermBank bank = new TermBank();
        Checks.due("bank of " + text, Checks.told(bank, text), 0);
        return bank;
    }

    /** A bank of n acts: each tells another ROOM, 0, 1 .. 9, 0 .. */
    private static TermBank acted(int n) {
        TermBank bank = told(SOME);
        for (int k = 0; k < n; k++) {
            bank.room(k % 10);
        }
        return bank;
    }

    /** "ACTS (at most 40 are kept, the latest ones)" .. "They are UNDONE, the last one first" */
    private static void actsForty() {
        for (int n : new int[] {0, 1, 2, 39, 40, 41, 42, 79, 80, 81, 100}) {
            TermBank bank = acted(n);
            int kept = Math.min(n, 40);
            Checks.due("kept of " + n, bank.count(11), kept);
            for (int left = kept - 1; left >= 0; left--) {
                Checks.due("undo() of " + n, bank.undo(), left);
                Checks.due("ACTS then", bank.count(11), left);
                int before = n - kept + left;
                Checks.due("ROOM then", bank.count(4), before == 0 ? 3 : (before - 1) % 10);
            }
            Checks.due("none left of " + n, bank.undo(), -1);
            int first = n - kept;
            Checks.due("what the eldest ones did stays", bank.count(4), first == 0 ? 3 : (first - 1) % 10);
        }
        // Undone and done again, past the 40th: those that are kept are the latest ones still.
        TermBank bank = acted(60);
        for (int k = 0; k < 25; k++) {
            bank.undo();
        }
        for (int k = 0; k < 30; k++) {
            bank.bind(k % 8, k % 9);
        }
        Checks.due("15 and 30", bank.count(11), 40);
        for (int k = 0; k < 30; k++) {
            bank.undo();
        }
        Checks.due("10 of the first ones", bank.count(11), 10);
        Checks.due("ROOM of the 35th", bank.count(4), 34 % 10);
        Checks.due("nothing is bound", bank.bound(0), -1);
        for (int k = 9; k >= 0; k--) {
            Checks.due("undo()", bank.undo(), k);
        }
        Checks.due("ROOM of the 25th", bank.count(4), 24 % 10);
    }

    /** "a TERM is made; a BINDING is told; BINDINGS by UNIFYING, by MATCHING; what is APPLIED .. ROOM is told": with 40 kept, too. */
    private static void actsOfEachKind() {
        Twins.Call[] calls = {bank -> bank.variable(5), bank -> bank.variable(0), bank -> bank.make(1, 0, 0, 0), bank -> bank.bind(0, 2),
            bank -> bank.apply(3), bank -> bank.close(3), bank -> bank.unify(3, 8), bank -> bank.unify(0, 0), bank -> bank.match(4, 5),
            bank -> bank.match(1, 1), bank -> bank.common(3, 8), bank -> bank.common(1, 1), bank -> bank.normal(5), bank -> bank.normal(0),
            bank -> bank.put(3, 1, 1), bank -> bank.put(3, 0, 1), bank -> bank.rules(2, 1), bank -> bank.enter(3), bank -> bank.leave(8),
            bank -> bank.room(3), bank -> bank.room(5), bank -> bank.draw(0, 1)};
        int[] due = {9, 0, 9, -1, 3, 3, 1, 1, 1, 1, 9, 1, 0, 0, 9, 1, 3, 3, 1, 3, 3, 0};
        for (int k = 0; k < calls.length; k++) {
            Twins.Call call = calls[k];
            TermBank fresh = told(SOME);
            int answer = k == calls.length - 1 ? call.of(fresh) : due[k];
            Twins.acted("act " + k, () -> told(SOME), call, answer);
            TermBank bank = acted(54);
            Checks.due("ROOM 3", bank.count(4), 3);
            call.of(bank);
            Checks.due("40 are kept", bank.count(11), 40);
            for (int left = 39; left >= 0; left--) {
                Checks.due("undo()", bank.undo(), left);
            }
            Checks.due("one more of the eldest is gone", bank.count(4), 14 % 10);
        }
    }

    /** "What can't be, or is FULL, TOO MUCH, a CLASH, a RING, changes nothing (but STATUS), and is none." */
    private static void refusedAreNoActs() {
        Twins.Call[] calls = {bank -> bank.variable(8), bank -> bank.make(3, 0, 0, 0), bank -> bank.bind(8, 0), bank -> bank.apply(9),
            bank -> bank.close(9), bank -> bank.unify(0, 9), bank -> bank.unify(2, 3), bank -> bank.unify(0, 4), bank -> bank.match(9, 0),
            bank -> bank.match(2, 3), bank -> bank.common(9, 0), bank -> bank.normal(9), bank -> bank.put(3, 4, 0),
            bank -> bank.rules(0, 1), bank -> bank.enter(8), bank -> bank.leave(3), bank -> bank.room(10), bank -> bank.draw(1, 5)};
        int[] due = {-1, -1, -2, -1, -1, -1, 0, 2, -1, 0, -1, -1, -1, -1, -1, -1, -1, -1};
        int[] kinds = {1, 1, 1, 1, 1, 1, 3, 3, 1, 3, 1, 1, 1, 1, 1, 1, 1, 1};
        for (int k = 0; k < calls.length; k++) {
            Twins.refused("refused call " + k, KeepingEdgesTest::some, calls[k], due[k], kinds[k]);
            Twins.refused("refused call " + k + " behind 43 acts", () -> acted(43), calls[k], due[k], kinds[k]);
        }
    }

    /** Promise 31: "how many are left. NONE: there is none." */
    private static void undoNone() {
        Twins.asked("undo() of none", () -> told(SOME), TermBank::undo, -1);
        Twins.asked("undo() of a new object", TermBank::new, TermBank::undo, -1);
        TermBank bank = some();
        Checks.due("two left", bank.undo(), 2);
        Checks.due("one left", bank.undo(), 1);
        Checks.due("none left", bank.undo(), 0);
        String before = Twins.picture(bank);
        for (int k = 0; k < 3; k++) {
            Checks.due("there is none", bank.undo(), -1);
        }
        Twins.same("nothing changes by it", Twins.picture(bank), before);
        Checks.due("STATUS 1 stays", bank.count(14), 1);
    }

    /** "(TERMS that came by it go)" */
    private static void undoneTermsGo() {
        TermBank bank = told("symbol g 1 1;symbol f 2 1;");
        int x = bank.variable(3);
        int gx = bank.make(0, x, 0, 0);
        int ggx = bank.make(0, gx, 0, 0);
        bank.make(1, ggx, x, 0);
        Checks.due("four", bank.count(1), 4);
        for (int left = 3; left >= 0; left--) {
            int gone = left;
            Checks.due("undo()", bank.undo(), left);
            Checks.due("TERMS", bank.count(1), left);
            Checks.none("it is gone", () -> bank.term(gone, 0));
            Checks.due("no such TERM", bank.make(0, gone, 0, 0), -1);
        }
        Checks.due("another one comes first", bank.variable(6), 0);
        Checks.due("?6 it is", bank.term(0, 1), 6);
        Checks.due("g(?6)", bank.make(0, 0, 0, 0), 1);
        Checks.due("?3 comes anew", bank.variable(3), 2);
        Checks.due("once", bank.variable(3), 2);
        // A TERM that was there before an act stays, though the act made it, too.
        bank.make(0, 0, 0, 0);
        bank.undo();
        Checks.due("it stays", bank.count(1), 3);
        Checks.due("it is found", bank.make(0, 0, 0, 0), 1);
    }

    /** "STATUS: .. 0 TEXTS with a FAULT, 1 ACTS that can't be, 2 that were FULL, TOO MUCH, 3 a CLASH, a RING, no MATCH." */
    private static void statusOfEachKind() {
        TermBank bank = told("symbol g 1 1;symbol a 0 1;term g(g(g(g(g(?0)))));term a;");
        int[] status = new int[4];
        status(bank, status, "at first");
        Checks.told(bank, "!");
        Checks.told(bank, "term b;");
        status[0] = 2;
        status(bank, status, "two FAULTS");
        bank.make(2, 0, 0, 0);
        bank.bind(0, -1);
        bank.room(10);
        status[1] = 3;
        status(bank, status, "three that can't be");
        bank.make(0, 5, 0, 0);
        bank.put(5, 5, 1);
        status[2] = 2;
        status(bank, status, "two FULL");
        bank.unify(1, 6);
        bank.unify(0, 1);
        bank.match(1, 6);
        bank.bind(0, 1);
        bank.close(0);
        status[3] = 4;
        status(bank, status, "a CLASH, a RING, no MATCH, a RING");
        bank.undo();
        status(bank, status, "undo() leaves them");
        Checks.illegal("bank(1)", () -> bank.bank(1));
        Checks.none("term(99, 0)", () -> bank.term(99, 0));
        Checks.illegal("years(0, 21, 0)", () -> bank.years(0, 21, 0));
        bank.feed(0, 0, 0, 0, 0);
        status(bank, status, "exceptions leave them");
        bank.bank(0);
        status(bank, status, "a text without a FAULT leaves them");
    }

    private static void status(TermBank bank, int[] due, String what) {
        for (int k = 0; k < 4; k++) {
            Checks.due("STATUS " + k + ": " + what, bank.count(13 + k), due[k]);
        }
    }

    /** "DRAWN of a seed and a depth (1 to 4)"; promise 30: "NONE (STATUS 1): not a depth of 1 to 4." */
    private static void drawDepths() {
        for (int depth : new int[] {0, 5, 6, -1, -4, Integer.MIN_VALUE, Integer.MAX_VALUE}) {
            Twins.refused("draw(7, " + depth + ")", KeepingEdgesTest::some, bank -> bank.draw(7, depth), -1, 1);
        }
        for (int depth = 1; depth <= 4; depth++) {
            int deepest = 0;
            for (int seed = 0; seed < 60; seed++) {
                TermBank bank = some();
                int drawn = bank.draw(seed, depth);
                deepest = Math.max(deepest, bank.term(drawn, 4));
                int from = seed;
                int to = depth;
                Twins.acted("draw(" + seed + ", " + depth + ")", KeepingEdgesTest::some, b -> b.draw(from, to), drawn);
            }
            Checks.due("the deepest of depth " + depth, deepest, depth);
        }
    }

    /** The term of a seed, as a text, by draws as the document says them. */
    private static void drawnText(Seeds seed, int depth, String names, int[] arities, StringBuilder text) {
        int eight = seed.draw(8);
        if (eight == 0 || depth == 1 || arities.length == 0) {
            text.append('?').append(seed.draw(3));
            return;
        }
        int symbol = seed.draw(arities.length);
        text.append(names.charAt(symbol));
        for (int i = 0; i < arities[symbol]; i++) {
            text.append(i == 0 ? '(' : ',');
            drawnText(seed, depth - 1, names, arities, text);
        }
        text.append(arities[symbol] > 0 ? ")" : "");
    }

    private static String text(TermBank bank, int term) {
        int symbol = bank.term(term, 0);
        if (symbol < 0) {
            return "?" + bank.term(term, 1);
        }
        StringBuilder text = new StringBuilder().append((char) bank.symbol(symbol, 0));
        int arity = bank.symbol(symbol, 1);
        for (int i = 0; i < arity; i++) {
            text.append(i == 0 ? "(" : ",").append(text(bank, bank.argument(term, i)));
        }
        return text.append(arity > 0 ? ")" : "").toString();
    }

    private static void drawn(String told, String names, int[] arities, int seed, int depth) {
        TermBank bank = told(told);
        StringBuilder due = new StringBuilder();
        drawnText(new Seeds(seed), depth, names, arities, due);
        Twins.same("draw(" + seed + ", " + depth + ")", text(bank, bank.draw(seed, depth)), due.toString());
        Checks.due("its parts come, no others", bank.count(1), bank.term(bank.count(1) - 1, 3));
    }

    /** "A seed becomes itself times 1103515245 and 12345 (an int that wraps)": the first and the last ints, and between. */
    private static void drawSeedsThatWrap() {
        String told = "symbol h 3 1;symbol a 0 1;symbol f 2 2;symbol g 1 1;";
        for (int seed : SEEDS) {
            for (int depth = 1; depth <= 4; depth++) {
                drawn(told, "hafg", new int[] {3, 0, 2, 1}, seed, depth);
            }
        }
        int seed = 1;
        for (int k = 0; k < 100; k++) {
            seed = seed * 69069 + 1;
            drawn(told, "hafg", new int[] {3, 0, 2, 1}, seed, 1 + k % 4);
        }
        // The seed's highest bit counts for nothing in a DRAW, and its bits 0 to 15 don't either.
        int down = 0;
        for (int from = 0; from < 2000 && down < 20; from++) {
            Seeds first = new Seeds(from);
            first.draw(8);
            if (first.now() < 0) {
                drawn(told, "hafg", new int[] {3, 0, 2, 1}, from, 4);
                down++;
            }
        }
        Checks.due("seeds that become less than 0", down, 20);
    }

    /** "a DRAW of 8: 0, or depth 1: a VARIABLE, a DRAW of 3; else a SYMBOL, a DRAW of SYMBOLS .., its ARGUMENTS .. from the left" */
    private static void drawsInTheirOrder() {
        TermBank bank = told("symbol a 0 1;symbol h 3 1;symbol g 1 1;");
        int[][] draws = {
            {8, 0, 3, 2}, {8, 1, 3, 1}, {8, 7, 3, 0},
            {8, 7, 3, 0}, {8, 1, 3, 2, 8, 5, 3, 1}, {8, 0, 3, 1},
            {8, 3, 3, 1, 8, 0, 3, 0, 8, 1, 3, 2, 8, 7, 3, 1},
            {8, 3, 3, 2, 8, 4, 3, 2, 8, 5, 3, 0},
            {8, 3, 3, 2, 8, 4, 3, 2, 8, 5, 3, 2, 8, 6, 3, 1},
        };
        int[] depths = {4, 1, 1, 2, 2, 2, 2, 3, 4};
        String[] due = {"?2", "?1", "?0", "a", "g(?1)", "?1", "h(?0,?2,?1)", "g(g(?0))", "g(g(g(?1)))"};
        for (int k = 0; k < draws.length; k++) {
            int seed = Seeds.of(draws[k]);
            Twins.same("drawn by seed " + seed + ", depth " + depths[k], text(bank, bank.draw(seed, depths[k])), due[k]);
        }
    }

    /** "a DRAW of SYMBOLS": of one, of ten. */
    private static void drawsOfSymbols() {
        StringBuilder ten = new StringBuilder();
        int[] arities = new int[10];
        for (int k = 0; k < 10; k++) {
            arities[k] = k % 4;
            ten.append("symbol ").append((char) ('a' + k)).append(' ').append(k % 4).append(" 1;");
        }
        boolean[] seen = new boolean[10];
        for (int seed = 0; seed < 60; seed++) {
            drawn(ten.toString(), "abcdefghij", arities, seed * 31, 3);
            drawn("symbol f 2 1;", "f", new int[] {2}, seed * 17, 3);
            Seeds first = new Seeds(seed * 31);
            if (first.draw(8) != 0) {
                seen[first.draw(10)] = true;
            }
        }
        for (boolean one : seen) {
            Checks.due("each of ten is drawn", one ? 1 : 0, 1);
        }
    }

    /** "(a VARIABLE by a DRAW of 3, if there are none)" */
    private static void drawsWithoutSymbols() {
        boolean[] seen = new boolean[3];
        for (int seed = 0; seed < 40; seed++) {
            for (int depth = 1; depth <= 4; depth++) {
                drawn("", "", new int[0], seed, depth);
            }
            Seeds both = new Seeds(seed);
            both.draw(8);
            seen[both.draw(3)] = true;
        }
        Checks.due("VARIABLES 0, 1, 2", seen[0] && seen[1] && seen[2] ? 1 : 0, 1);
        TermBank bank = new TermBank();
        for (int what = 0; what < 3; what++) {
            Checks.due("years without SYMBOLS", bank.years(5, 20, what), 0);
        }
        Checks.due("no TERMS by them", bank.count(1), 0);
    }

    /** Promise 25: "A TERM with another one put into a PLACE: which. NONE (STATUS 1): also no such PLACE." */
    private static void putPlaces() {
        String[] due = {"g(?0)", "f(g(?0),g(a))", "f(?0,g(?0))", "f(?0,g(g(?0)))"};
        for (int place = 0; place < 4; place++) {
            int at = place;
            TermBank bank = some();
            int made = bank.put(3, place, 4);
            Twins.same("put into place " + place, text(bank, made), due[place]);
            Twins.acted("put into place " + place, KeepingEdgesTest::some, b -> b.put(3, at, 4), made);
        }
        for (int wrong : new int[] {4, 5, -1, Integer.MIN_VALUE, Integer.MAX_VALUE}) {
            Twins.refused("put(3, " + wrong + ", 4)", KeepingEdgesTest::some, bank -> bank.put(3, wrong, 4), -1, 1);
        }
        Twins.refused("place 1 of a VARIABLE", KeepingEdgesTest::some, bank -> bank.put(0, 1, 4), -1, 1);
        for (int wrong : new int[] {9, -1, Integer.MIN_VALUE, Integer.MAX_VALUE}) {
            Twins.refused("put(" + wrong + ", 0, 4)", KeepingEdgesTest::some, bank -> bank.put(wrong, 0, 4), -1, 1);
            Twins.refused("put(3, 0, " + wrong + ")", KeepingEdgesTest::some, bank -> bank.put(3, 0, wrong), -1, 1);
            Twins.refused("put(3, 3, " + wrong + ")", KeepingEdgesTest::some, bank -> bank.put(3, 3, wrong), -1, 1);
        }
        TermBank three = told("symbol h 3 1;symbol a 0 1;term h(?0,h(?1,?2,?3),?4);term a;");
        String[] all = {"a", "h(a,h(?1,?2,?3),?4)", "h(?0,a,?4)", "h(?0,h(a,?2,?3),?4)", "h(?0,h(?1,a,?3),?4)", "h(?0,h(?1,?2,a),?4)",
            "h(?0,h(?1,?2,?3),a)"};
        for (int place = 0; place < 7; place++) {
            Twins.same("a put into place " + place, text(three, three.put(6, place, 7)), all[place]);
        }
        Checks.due("no place 7", three.put(6, 7, 7), -1);
    }

    /** Promise 32: "NoSuchElementException: another what. IllegalArgumentException (behind that): n."; "n times (0 to 20)" */
    private static void yearsAsked() {
        for (int what = 0; what < 3; what++) {
            int w = what;
            Twins.asked("years(3, 0, " + what + ")", KeepingEdgesTest::some, bank -> bank.years(3, 0, w), 0);
            TermBank bank = some();
            int twenty = bank.years(3, 20, what);
            Checks.due("20 years", twenty >= 0 ? 1 : 0, 1);
            Twins.asked("years(3, 20, " + what + ")", KeepingEdgesTest::some, b -> b.years(3, 20, w), twenty);
            for (int n : new int[] {21, 22, -1, -20, Integer.MIN_VALUE, Integer.MAX_VALUE}) {
                Twins.illegal("years(3, " + n + ", " + what + ")", KeepingEdgesTest::some, b -> b.years(3, n, w));
            }
        }
        for (int wrong : new int[] {3, 4, -1, Integer.MIN_VALUE, Integer.MAX_VALUE}) {
            for (int n : new int[] {0, 20, 21, -1}) {
                Twins.noSuch("years(3, " + n + ", " + wrong + ")", KeepingEdgesTest::some, bank -> bank.years(3, n, wrong));
            }
        }
    }

    private static int drawnTerm(TermBank bank, Seeds seed, int depth, int symbols) {
        int eight = seed.draw(8);
        if (eight == 0 || depth == 1) {
            return bank.variable(seed.draw(3));
        }
        int symbol = seed.draw(symbols);
        int arity = bank.symbol(symbol, 1);
        int a = arity > 0 ? drawnTerm(bank, seed, depth - 1, symbols) : 0;
        int b = arity > 1 ? drawnTerm(bank, seed, depth - 1, symbols) : 0;
        int c = arity > 2 ? drawnTerm(bank, seed, depth - 1, symbols) : 0;
        return bank.make(symbol, a, b, c);
    }

    /** WEIGHT lost, HITS, STEPS of so many years, by draws and normal() one by one on another object. */
    private static int[] byHand(TermBank bank, int seed, int n, int symbols) {
        Seeds drawn = new Seeds(seed);
        int hits = bank.count(6);
        int steps = bank.count(7);
        int lost = 0;
        for (int year = 0; year < n; year++) {
            int term = drawnTerm(bank, drawn, 3, symbols);
            lost += bank.term(term, 5) - bank.term(bank.normal(term), 5);
        }
        return new int[] {lost, bank.count(6) - hits, bank.count(7) - steps};
    }

    /** "a TERM is DRAWN, of depth 3, and its NORMAL is made: WEIGHT that was lost together; HITS; STEPS" */
    private static void yearsOfSeeds() {
        for (int seed : SEEDS) {
            for (int n : new int[] {1, 2, 7, 20}) {
                int[] due = byHand(some(), seed, n, 3);
                for (int what = 0; what < 3; what++) {
                    Checks.due("years(" + seed + ", " + n + ", " + what + ")", some().years(seed, n, what), due[what]);
                }
            }
        }
    }

    /** MEMO as it is counts, too: a TERM of it is a HIT of the first year. */
    private static void yearsUseTheMemo() {
        // g(g(?1)), asked before.
        int seed = Seeds.of(8, 1, 3, 2, 8, 1, 3, 2, 8, 0, 3, 1);
        TermBank bank = told(SOME);
        int term = bank.make(2, bank.make(2, 7, 0, 0), 0, 0);
        Checks.due("WEIGHT lost", bank.years(seed, 1, 0), 2);
        Checks.due("no HIT", bank.years(seed, 1, 1), 0);
        Checks.due("a STEP", bank.years(seed, 1, 2), 1);
        bank.normal(term);
        Checks.due("WEIGHT lost by a HIT", bank.years(seed, 1, 0), 2);
        Checks.due("a HIT", bank.years(seed, 1, 1), 1);
        Checks.due("no STEP", bank.years(seed, 1, 2), 0);
        Checks.due("none of them stays", bank.count(6) * 10 + bank.count(7), 1);
    }

    /** The first TERM of all may be drawn, too: b, which gets a. */
    private static void yearsOfTheFirstTerm() {
        TermBank bank = told("symbol b 0 5;symbol a 0 1;rule b to a;");
        int seed = Seeds.of(8, 1, 2, 0);
        Checks.due("b is the first TERM", bank.rule(0, 0), 0);
        Checks.due("WEIGHT lost", bank.years(seed, 1, 0), 4);
        Checks.due("STEPS", bank.years(seed, 1, 2), 1);
        bank.normal(0);
        Checks.due("HITS", bank.years(seed, 1, 1), 1);
    }

    private static final String CHAIN = "symbol a 3 1;symbol b 3 1;symbol c 3 1;symbol d 3 1;symbol e 3 1;rule e(?0,?1,?2) to d(?0,?1,?2);"
        + "rule d(?0,?1,?2) to c(?0,?1,?2);rule c(?0,?1,?2) to b(?0,?1,?2);rule b(?0,?1,?2) to a(?0,?1,?2);room 0;";

    /** "(NONE each, if .. there are TOO MUCH of all together, being one call)": 100 STEPS, and more. */
    private static void yearsTooMuch() {
        Checks.due("STEPS of seed 22 in 14 years", byHand(told(CHAIN), 22, 14, 5)[2], 100);
        Checks.due("STEPS of seed 22 in 15 years", byHand(told(CHAIN), 22, 15, 5)[2], 110);
        Checks.due("STEPS of seed 5 in 11 years", byHand(told(CHAIN), 5, 11, 5)[2], 94);
        Checks.due("STEPS of seed 5 in 12 years", byHand(told(CHAIN), 5, 12, 5)[2], 101);
        int[] hundred = {0, 0, 100};
        int[] less = {0, 0, 94};
        for (int what = 0; what < 3; what++) {
            int w = what;
            Twins.asked("100 STEPS in 14 years", () -> told(CHAIN), bank -> bank.years(22, 14, w), hundred[what]);
            Twins.asked("more in 15 years", () -> told(CHAIN), bank -> bank.years(22, 15, w), -1);
            Twins.asked("94 STEPS in 11 years", () -> told(CHAIN), bank -> bank.years(5, 11, w), less[what]);
            Twins.asked("101 in 12 years", () -> told(CHAIN), bank -> bank.years(5, 12, w), -1);
            Twins.asked("still more in 20 years", () -> told(CHAIN), bank -> bank.years(5, 20, w), -1);
        }
        TermBank bank = told(CHAIN);
        Checks.due("TOO MUCH", bank.years(5, 12, 2), -1);
        Checks.due("the next call has its own 100", bank.years(22, 14, 2), 100);
    }

    /** Promise 33: "AN IMAGE is kept": no act, no STATUS, nothing else. */
    private static void imageChangesNothing() {
        TermBank bank = some();
        TermBank twin = some();
        bank.image();
        Twins.same("image() changes nothing", Twins.picture(bank), Twins.picture(twin));
        Checks.due("ACTS", bank.count(11), twin.count(11));
        Checks.due("STATUS 1", bank.count(14), twin.count(14));
        bank.undo();
        twin.undo();
        Twins.same("nor what is undone", Twins.picture(bank), Twins.picture(twin));
    }

    /** Promise 34: "False: there is none." */
    private static void restoreNone() {
        Twins.asked("restore() without an image", () -> told(SOME), bank -> bank.restore() ? 1 : 0, 0);
        Twins.asked("restore() of a new object", TermBank::new, bank -> bank.restore() ? 1 : 0, 0);
        Twins.asked("restore() without an image, behind acts", () -> acted(45), bank -> bank.restore() ? 1 : 0, 0);
    }

    /** "AN IMAGE keeps all that ACTS change, ACTS that are kept, STATUS."; "It is as the IMAGE again: true." */
    private static void restoreAll() {
        Twins.Build build = () -> {
            TermBank bank = some();
            bank.unify(3, 8);
            bank.normal(5);
            bank.unify(2, 3);
            bank.make(1, 9, 9, 9);
            return bank;
        };
        TermBank bank = build.bank();
        TermBank twin = build.bank();
        bank.image();
        twin.image();
        // All is changed: fewer acts, then others; other terms, rules, entries, room, memo, bindings, STATUS.
        for (int k = 0; k < 4; k++) {
            bank.undo();
        }
        bank.draw(9, 4);
        bank.rules(2, 1);
        bank.leave(8);
        bank.room(9);
        bank.match(4, 2);
        bank.normal(2);
        bank.variable(9);
        bank.unify(0, 4);
        for (int turn = 0; turn < 2; turn++) {
            Checks.due("restore()", bank.restore() ? 1 : 0, 1);
            Twins.same("as the image again", Twins.picture(bank), Twins.picture(twin));
            for (int what = 11; what < 17; what++) {
                Checks.due("count(" + what + ") of the image", bank.count(what), twin.count(what));
            }
            bank.variable(3);
            bank.bind(3, 2);
            bank.variable(8);
        }
        bank.restore();
        Twins.sameBehind("the acts of the image", bank, twin);
        // What is no part of it: the tape, the place of a FAULT.
        Checks.told(bank, "room");
        Checks.feed(bank, "term ?0;");
        bank.restore();
        Checks.due("the tape stays", bank.count(12), 20);
        Checks.due("the place of a FAULT stays", bank.fault(), 4);
        Checks.due("STATUS 0 of the image", bank.count(13), 0);
        Checks.due("it can be read", bank.bank(8), 0);
    }

    /** "ACTS that are kept": all forty, from any of them on. */
    private static void restoreOfFortyActs() {
        for (int n : new int[] {39, 40, 41, 57}) {
            for (int other : new int[] {0, 1, 40, 63}) {
                TermBank bank = acted(n);
                bank.image();
                for (int k = 0; k < other; k++) {
                    bank.bind(k % 8, k % 9);
                }
                bank.restore();
                int kept = Math.min(n, 40);
                Checks.due("kept of " + n, bank.count(11), kept);
                Checks.due("nothing is bound", bank.bound(0), -1);
                for (int left = kept - 1; left >= 0; left--) {
                    Checks.due("undo()", bank.undo(), left);
                    int before = n - kept + left;
                    Checks.due("ROOM then", bank.count(4), before == 0 ? 3 : (before - 1) % 10);
                }
                Checks.due("none left", bank.undo(), -1);
                Checks.due("restored again", bank.restore() ? bank.count(11) : -1, kept);
            }
        }
    }

    private static final String MANY = "symbol g 1 7;symbol f 2 3;symbol h 3 1;symbol a 0 2;term ?0;";

    /** Terms of other heads, weights, depths, variables come where those of the image were. */
    private static void restoreOfTerms() {
        Twins.Build build = () -> {
            TermBank bank = told(MANY);
            int t = 0;
            for (int v = 1; v < 5; v++) {
                bank.variable(v);
                t = bank.make(v % 2, t, v, 0);
            }
            return bank;
        };
        TermBank bank = build.bank();
        TermBank twin = build.bank();
        bank.image();
        for (int k = 0; k < 8; k++) {
            bank.undo();
        }
        for (int v = 7; v > 0; v--) {
            bank.variable(v);
        }
        bank.make(2, 3, 4, 5);
        bank.make(0, 8, 0, 0);
        bank.make(1, 9, 9, 0);
        Checks.due("restore()", bank.restore() ? 1 : 0, 1);
        Twins.sameTerms("restored", bank, twin);
    }

    /** "the FAULT (all stays, but STATUS)": what the text told up to its FAULT was read into nothing. */
    private static void faultKeepsTerms() {
        Twins.Build build = () -> {
            TermBank bank = told(MANY);
            bank.variable(6);
            bank.make(2, bank.make(3, 0, 0, 0), 1, 0);
            bank.make(0, 3, 0, 0);
            bank.rules(4, 2);
            bank.enter(3);
            return bank;
        };
        TermBank bank = build.bank();
        TermBank twin = build.bank();
        Checks.due("a FAULT", Checks.told(bank, "symbol a 1 1;symbol h 0 9;symbol g 2 4;term h;term a(h);term ?7;term ?6;term g(a(h),?0);entry h;"
            + "term g(g(?1,?2),?3);!"), 1);
        Twins.sameTerms("behind a FAULT", bank, twin);
        Twins.same("symbols", Twins.told(bank), Twins.told(twin));
        Checks.due("acts come as before", bank.normal(4), 2);
    }

    /** Promise 33: "in place of another one" */
    private static void imageInPlaceOfAnother() {
        TermBank bank = acted(5);
        bank.image();
        bank.room(8);
        bank.variable(7);
        bank.image();
        bank.undo();
        bank.undo();
        bank.undo();
        Checks.due("restore()", bank.restore() ? 1 : 0, 1);
        Checks.due("ROOM of the latter", bank.count(4), 8);
        Checks.due("TERMS of the latter", bank.count(1), 10);
        Checks.due("ACTS of the latter", bank.count(11), 7);
    }

    /** Promise 3: "ACTS, the image are gone."; with a FAULT "all stays" */
    private static void imageIsGoneByBank() {
        TermBank bank = some();
        Checks.told(bank, "room 10;");
        Checks.due("it stays by a FAULT", bank.restore() ? 1 : 0, 1);
        Checks.illegal("bank(1)", () -> bank.bank(1));
        Checks.due("it stays by an exception", bank.restore() ? 1 : 0, 1);
        Checks.told(bank, "room 9;");
        Checks.due("it is gone", bank.restore() ? 1 : 0, 0);
        Checks.due("ROOM stays", bank.count(4), 9);
        bank.image();
        bank.room(1);
        Checks.due("another one", bank.restore() ? 1 : 0, 1);
        Checks.due("ROOM of it", bank.count(4), 9);
        for (int wrong : WRONG) {
            Checks.due("refused behind it", bank.variable(wrong), -1);
        }
    }

    /** "An object is used for at most 512 calls": the 512th is answered as any other one. */
    private static void fiveHundredCalls() {
        TermBank bank = told(SOME);
        int asked = (SOME.length() + 19) / 20 + 1;
        for (int k = asked; k < 509; k++) {
            int call = k % 4;
            if (call == 0) {
                Checks.due("a MEETING", bank.count(9), 1);
            } else if (call == 1) {
                Checks.due("years", bank.years(0, 20, 2) >= 0 ? 1 : 0, 1);
            } else if (call == 2) {
                Checks.due("a VARIABLE", bank.variable(1), 7);
            } else {
                bank.image();
            }
        }
        Checks.due("the 510th", bank.normal(5), 0);
        Checks.due("the 511th", bank.undo(), 39);
        Checks.due("the 512th", bank.count(1), 9);
    }
}
