/** What the document bounds of bindings, of unifying, matching, common, greater (part 2, promises 10, 15, 18 to 23). */
public final class BindingEdgesTest {
    private static final int[] WRONG = {-1, -2, -3, Integer.MIN_VALUE, Integer.MAX_VALUE};
    private static final String SYMBOLS = "symbol a 0 1;symbol b 0 1;symbol c 0 2;symbol g 1 1;symbol f 2 1;symbol h 3 1;";
    private static final int A = 0;

    private BindingEdgesTest() { }

    public static void main(String[] args) {
        boundAsked();
        bindings();
        bindingsSoAlready();
        appliedOnce();
        appliedRefused();
        closedTillNothingIsBound();
        closedRings();
        unifiedRefused();
        unifiedClashes();
        unifiedRings();
        unifiedClashBeforeRing();
        unifiedRingBeforeFull();
        unifiedBindings();
        unifiedLeastVariable();
        unifiedTermsRising();
        unifiedThreeArguments();
        matchedRefused();
        matchedBindings();
        commonRefused();
        commonOfCouples();
        commonOfEight();
        commonNoneBeforeFull();
        orderRefused();
        orderByVariables();
        orderByWeight();
        orderBySymbol();
        orderByArguments();
        Checks.end();
    }

    /** Terms: 0 ?0, 1 ?1, 2 f(?0,?1), 3 a, 4 g(a), 5 f(g(a),?0), 6 ?7, 7 g(?7), 8 b. */
    private static TermBank some() {
        TermBank bank = new TermBank();
        Checks.told(bank, SYMBOLS + "term f(?0,?1);term f(g(a),?0);term g(?7);term b;");
        bank.bind(7, 4);
        bank.image();
        bank.bind(2, 3);
        return bank;
    }

    /** The number of a term told as a text, which is made with all its parts. */
    private static int made(TermBank bank, String text) {
        return new Maker(bank, text).term();
    }

    /** Reads the terms of these tests: names are the letters of SYMBOLS. */
    private static final class Maker {
        private final TermBank bank;
        private final String text;
        private int at = 0;

        Maker(TermBank bank, String text) {
            this.bank = bank;
            this.text = text;
        }

        int term() {
            char letter = text.charAt(at++);
            if (letter == '?') {
                return bank.variable(text.charAt(at++) - '0');
            }
            int symbol = "abcgfh".indexOf(letter);
            int[] parts = new int[3];
            int arity = Math.max(symbol - 2, 0);
            for (int i = 0; i < arity; i++) {
                at++;
                parts[i] = term();
            }
            at += arity > 0 ? 1 : 0;
            return bank.make(symbol, parts[0], parts[1], parts[2]);
        }
    }

    /** The term as a text again, with all VARIABLES as they are. */
    private static String text(TermBank bank, int term) {
        if (term < 0) {
            return "-";
        }
        int symbol = bank.term(term, 0);
        if (symbol < 0) {
            return "?" + bank.term(term, 1);
        }
        StringBuilder text = new StringBuilder().append((char) bank.symbol(symbol, 0));
        int arity = bank.symbol(symbol, 1);
        for (int i = 0; i < arity; i++) {
            text.append(i == 0 ? "(" : ",").append(text(bank, bank.argument(term, i)));
        }
        return text.append(arity > 0 ? ")" : "").toString();
    }

    private static TermBank with(String... texts) {
        TermBank bank = new TermBank();
        StringBuilder text = new StringBuilder(SYMBOLS);
        for (String term : texts) {
            text.append("term ").append(term).append(';');
        }
        Checks.due("bank of " + text, Checks.told(bank, text.toString()), 0);
        bank.bind(6, bank.variable(6));
        return bank;
    }

    /** Promise 15: "The BINDING of a VARIABLE; NONE: none. NoSuchElementException: no such VARIABLE." */
    private static void boundAsked() {
        int[] due = {-1, -1, 3, -1, -1, -1, -1, 4};
        for (int v = 0; v < 8; v++) {
            int variable = v;
            Twins.asked("bound(" + v + ")", BindingEdgesTest::some, bank -> bank.bound(variable), due[v]);
        }
        Twins.noSuch("bound(8)", BindingEdgesTest::some, bank -> bank.bound(8));
        for (int wrong : WRONG) {
            Twins.noSuch("bound(" + wrong + ")", BindingEdgesTest::some, bank -> bank.bound(wrong));
        }
    }

    /** Promise 18: "(term NONE: none any more): the one there was (NONE). -2 (STATUS 1): no such VARIABLE, TERM" */
    private static void bindings() {
        int[] there = {-1, -1, 3, -1, -1, -1, -1, 4};
        for (int v = 0; v < 8; v++) {
            int variable = v;
            Twins.acted("bind(" + v + ", 8)", BindingEdgesTest::some, bank -> bank.bind(variable, 8), there[v]);
            Twins.acted("bind(" + v + ", 0)", BindingEdgesTest::some, bank -> bank.bind(variable, 0), there[v]);
            Twins.refused("bind(" + v + ", 9)", BindingEdgesTest::some, bank -> bank.bind(variable, 9), -2, 1);
            Twins.refused("bind(" + v + ", -2)", BindingEdgesTest::some, bank -> bank.bind(variable, -2), -2, 1);
            Twins.refused("bind(" + v + ", MIN)", BindingEdgesTest::some, bank -> bank.bind(variable, Integer.MIN_VALUE), -2, 1);
            Twins.refused("bind(" + v + ", MAX)", BindingEdgesTest::some, bank -> bank.bind(variable, Integer.MAX_VALUE), -2, 1);
        }
        for (int wrong : new int[] {8, 9, -1, -2, Integer.MIN_VALUE, Integer.MAX_VALUE}) {
            Twins.refused("bind(" + wrong + ", 0)", BindingEdgesTest::some, bank -> bank.bind(wrong, 0), -2, 1);
            Twins.refused("bind(" + wrong + ", -1)", BindingEdgesTest::some, bank -> bank.bind(wrong, -1), -2, 1);
        }
        TermBank bank = some();
        Checks.due("2 gets another one", bank.bind(2, 8), 3);
        Checks.due("then none", bank.bind(2, -1), 8);
        Checks.due("then one again", bank.bind(2, 3), -1);
        Twins.same("only that one changes", Twins.bounds(bank), " -1 -1 3 -1 -1 -1 -1 4");
        Checks.due("no TERM comes", bank.count(1), 9);
    }

    /** "it is so already" */
    private static void bindingsSoAlready() {
        Twins.refused("bind(7, 4)", BindingEdgesTest::some, bank -> bank.bind(7, 4), -2, 1);
        Twins.refused("bind(2, 3)", BindingEdgesTest::some, bank -> bank.bind(2, 3), -2, 1);
        Twins.refused("bind(0, NONE)", BindingEdgesTest::some, bank -> bank.bind(0, -1), -2, 1);
        Twins.acted("bind(7, NONE)", BindingEdgesTest::some, bank -> bank.bind(7, -1), 4);
        Twins.acted("bind(7, 3)", BindingEdgesTest::some, bank -> bank.bind(7, 3), 4);
        Twins.acted("bind(0, its own TERM)", BindingEdgesTest::some, bank -> bank.bind(0, 0), -1);
    }

    /** "APPLIED: in a TERM each VARIABLE that has a BINDING is that TERM (all at once, and once)." */
    private static void appliedOnce() {
        TermBank bank = with("h(?0,?1,?2)", "f(?1,?0)", "g(?0)");
        int h = made(bank, "h(?0,?1,?2)");
        bank.bind(0, made(bank, "?1"));
        bank.bind(1, made(bank, "f(?0,?2)"));
        Twins.same("all at once, and once", text(bank, bank.apply(h)), "h(?1,f(?0,?2),?2)");
        Twins.same("once more", text(bank, bank.apply(bank.apply(h))), "h(f(?0,?2),f(?1,?2),?2)");
        bank.bind(2, made(bank, "g(?2)"));
        Twins.same("the third one", text(bank, bank.apply(h)), "h(?1,f(?0,?2),g(?2))");
        bank.bind(2, made(bank, "?2"));
        Twins.same("one bound to itself", text(bank, bank.apply(h)), "h(?1,f(?0,?2),?2)");
        bank.bind(0, -1);
        Twins.same("none any more", text(bank, bank.apply(h)), "h(?0,f(?0,?2),?2)");
        // What comes: the arguments ahead, the first one first.
        TermBank order = with("h(g(?0),f(?0,?0),?0)");
        order.bind(0, order.make(A, 0, 0, 0));
        int before = order.count(1);
        Checks.due("h(g(a),f(a,a),a)", order.apply(3), before + 2);
        Twins.same("g(a) first", text(order, before), "g(a)");
        Twins.same("then f(a,a)", text(order, before + 1), "f(a,a)");
    }

    /** Promise 19: "NONE (STATUS 1): no such TERM (as of all ACTS below)." */
    private static void appliedRefused() {
        for (int wrong : new int[] {9, -1, -2, -3, Integer.MIN_VALUE, Integer.MAX_VALUE}) {
            Twins.refused("apply(" + wrong + ")", BindingEdgesTest::some, bank -> bank.apply(wrong), -1, 1);
            Twins.refused("close(" + wrong + ")", BindingEdgesTest::some, bank -> bank.close(wrong), -1, 1);
        }
        Twins.acted("apply(8)", BindingEdgesTest::some, bank -> bank.apply(8), 8);
        Twins.acted("apply(6)", BindingEdgesTest::some, bank -> bank.apply(6), 4);
        Twins.acted("apply(7)", BindingEdgesTest::some, bank -> bank.apply(7), 9);
        Twins.acted("close(8)", BindingEdgesTest::some, bank -> bank.close(8), 8);
        Twins.acted("close(6)", BindingEdgesTest::some, bank -> bank.close(6), 4);
        Twins.acted("close(7)", BindingEdgesTest::some, bank -> bank.close(7), 9);
    }

    /** "CLOSED: again and again, till no VARIABLE that has a BINDING is in it" */
    private static void closedTillNothingIsBound() {
        TermBank bank = with("h(?0,?1,?2)");
        int h = made(bank, "h(?0,?1,?2)");
        bank.bind(0, made(bank, "g(?1)"));
        bank.bind(1, made(bank, "f(?2,?3)"));
        bank.bind(2, made(bank, "?4"));
        Twins.same("thrice", text(bank, bank.close(h)), "h(g(f(?4,?3)),f(?4,?3),?4)");
        Twins.same("nothing is bound in it", text(bank, bank.close(bank.close(h))), "h(g(f(?4,?3)),f(?4,?3),?4)");
        int before = bank.count(1);
        bank.bind(4, made(bank, "a"));
        Twins.same("four times", text(bank, bank.close(h)), "h(g(f(a,?3)),f(a,?3),a)");
        // a, f(a,?3), g(f(a,?3)), h(..): what is only in between doesn't come.
        Checks.due("what comes", bank.count(1), before + 4);
        // Eight VARIABLES, each by the next one, and the last one by a TERM.
        TermBank eight = with("h(?0,?7,?3)");
        int t = made(eight, "h(?0,?7,?3)");
        for (int v = 7; v > 0; v--) {
            eight.bind(v, made(eight, "?" + (v - 1)));
        }
        Twins.same("all are ?0", text(eight, eight.close(t)), "h(?0,?0,?0)");
        eight.bind(0, made(eight, "b"));
        Twins.same("all are b", text(eight, eight.close(t)), "h(b,b,b)");
    }

    private static TermBank ringed() {
        TermBank bank = with("f(?0,?5)", "f(?5,?0)", "g(?1)", "f(?2,?0)", "h(?5,?5,?3)");
        bank.bind(0, made(bank, "g(?1)"));
        bank.bind(1, made(bank, "f(?2,?0)"));
        bank.bind(3, made(bank, "?3"));
        bank.bind(4, made(bank, "?5"));
        return bank;
    }

    /** "a RING, if that never ends"; promise 20: "-2 (STATUS 3): a RING." */
    private static void closedRings() {
        String[] rings = {"?0", "?1", "g(?1)", "f(?0,?5)", "f(?5,?0)", "?3", "h(?5,?5,?3)", "?6"};
        for (String ring : rings) {
            int term = made(ringed(), ring);
            Twins.refused("a RING by " + ring, () -> {
                TermBank bank = ringed();
                made(bank, ring);
                return bank;
            }, bank -> bank.close(term), -2, 3);
        }
        for (String fine : new String[] {"?2", "?5", "?4", "g(?4)", "a"}) {
            TermBank bank = ringed();
            Twins.same("no RING by " + fine, text(bank, bank.close(made(bank, fine))), fine.replace('4', '5'));
            Checks.due("no STATUS", bank.count(16), 0);
        }
        TermBank bank = ringed();
        bank.bind(1, made(bank, "f(?2,?4)"));
        Twins.same("the RING is broken", text(bank, bank.close(made(bank, "f(?0,?5)"))), "f(g(f(?2,?5)),?5)");
        // A RING of all eight VARIABLES, without any TERM round them.
        TermBank eight = with("?0");
        for (int v = 0; v < 8; v++) {
            eight.bind(v, made(eight, "?" + (v + 1) % 8));
        }
        Checks.due("a RING of eight", eight.close(0), -2);
        eight.bind(7, -1);
        Twins.same("a row of eight", text(eight, eight.close(0)), "?7");
        closedRingsFarOff();
        closedDeepest();
    }

    /** A RING that isn't in the TERM but is led to, by any VARIABLE, beside any other one. */
    private static void closedRingsFarOff() {
        for (int v = 0; v < 8; v++) {
            for (int w = 0; w < 8; w++) {
                if (v != w) {
                    TermBank bank = with("f(?" + v + ",?" + w + ")", "f(?" + w + ",?" + v + ")", "a");
                    bank.bind(6, -1);
                    int ring = made(bank, "?" + w);
                    bank.bind(w, ring);
                    Checks.due("a RING beside ?" + v, bank.close(made(bank, "f(?" + v + ",?" + w + ")")), -2);
                    bank.bind(v, made(bank, "a"));
                    Checks.due("a RING beside a", bank.close(made(bank, "f(?" + v + ",?" + w + ")")), -2);
                    Checks.due("a RING ahead of a", bank.close(made(bank, "f(?" + w + ",?" + v + ")")), -2);
                    bank.bind(v, ring);
                    Checks.due("a RING by ?" + v + ", ?" + w, bank.close(made(bank, "?" + v)), -2);
                    bank.bind(w, -1);
                    Checks.due("no RING any more", bank.close(made(bank, "?" + v)), ring);
                }
            }
        }
    }

    /** The deepest TERM, and the longest row of BINDINGS behind it, by each ARGUMENT. */
    private static void closedDeepest() {
        String[] texts = {"g(g(g(g(g(?0)))))", "f(a,f(a,f(a,f(a,f(a,?0)))))", "f(f(f(f(f(?0,a),a),a),a),a)",
            "h(a,a,h(a,a,h(a,a,h(a,a,h(a,a,?0)))))", "h(a,h(a,h(a,h(a,h(a,?0,a),a),a),a),a)"};
        for (String deep : texts) {
            TermBank bank = with(deep, "b");
            for (int v = 0; v < 7; v++) {
                bank.bind(v, made(bank, "?" + (v + 1)));
            }
            Twins.same("closed by seven", text(bank, bank.close(made(bank, deep))), deep.replace("?0", "?7"));
            bank.bind(7, made(bank, "b"));
            Twins.same("closed by eight", text(bank, bank.close(made(bank, deep))), deep.replace("?0", "b"));
        }
    }

    /** Promise 21 and on: "NONE (STATUS 1): no such TERM (as of all ACTS below)" */
    private static void unifiedRefused() {
        for (int wrong : new int[] {9, -1, -2, Integer.MIN_VALUE, Integer.MAX_VALUE}) {
            for (int right = 0; right < 9; right += 8) {
                int other = right;
                Twins.refused("unify(" + wrong + ", " + right + ")", BindingEdgesTest::some, bank -> bank.unify(wrong, other), -1, 1);
                Twins.refused("unify(" + right + ", " + wrong + ")", BindingEdgesTest::some, bank -> bank.unify(other, wrong), -1, 1);
            }
            Twins.refused("unify(" + wrong + ", " + wrong + ")", BindingEdgesTest::some, bank -> bank.unify(wrong, wrong), -1, 1);
        }
        Twins.acted("unify(8, 8)", BindingEdgesTest::some, bank -> bank.unify(8, 8), 1);
    }

    private static void unify(String s, String t, int answer) {
        TermBank at = with(s, t);
        int left = made(at, s);
        int right = made(at, t);
        Twins.Build build = () -> {
            TermBank bank = with(s, t);
            bank.bind(7, 0);
            return bank;
        };
        if (answer == 1) {
            Twins.acted(s + " with " + t, build, bank -> bank.unify(left, right), 1);
            Twins.acted(t + " with " + s, build, bank -> bank.unify(right, left), 1);
        } else {
            Twins.refused(s + " with " + t, build, bank -> bank.unify(left, right), answer, 3);
            Twins.refused(t + " with " + s, build, bank -> bank.unify(right, left), answer, 3);
        }
    }

    /** "a CLASH, if two unlike SYMBOLS would be"; promise 21: "0 (STATUS 3): a CLASH" */
    private static void unifiedClashes() {
        unify("a", "b", 0);
        unify("a", "a", 1);
        unify("a", "g(?0)", 0);
        unify("g(a)", "g(b)", 0);
        unify("g(?0)", "g(b)", 1);
        unify("g(?0)", "f(?0,?0)", 0);
        unify("f(?0,?0)", "f(a,b)", 0);
        unify("f(?0,?1)", "f(a,b)", 1);
        unify("f(?0,a)", "f(b,?0)", 0);
        unify("f(?0,a)", "f(a,?0)", 1);
        unify("h(?0,?1,?2)", "h(?1,?2,a)", 1);
        unify("h(?0,a,b)", "h(?1,?1,?0)", 0);
        unify("h(?0,?0,?1)", "h(g(?2),?1,g(a))", 1);
        unify("h(?0,?0,?1)", "h(g(b),?1,g(a))", 0);
        unify("h(a,a,a)", "h(a,a,b)", 0);
        unify("h(a,a,a)", "h(a,b,a)", 0);
        unify("h(a,a,a)", "h(b,a,a)", 0);
    }

    /** "else a RING, if a TERM would have to be in itself"; promise 21: "2 (STATUS 3): a RING." */
    private static void unifiedRings() {
        unify("?0", "?0", 1);
        unify("?0", "g(?0)", 2);
        unify("?0", "g(?1)", 1);
        unify("g(?0)", "g(g(?0))", 2);
        unify("f(?0,?1)", "f(?1,?0)", 1);
        unify("f(?0,?1)", "f(g(?1),g(?0))", 2);
        unify("f(?0,?1)", "f(g(?1),g(?2))", 1);
        unify("h(?0,?1,?2)", "h(g(?1),g(?2),g(?0))", 2);
        unify("h(?0,?1,?2)", "h(?1,?2,g(?0))", 2);
        unify("h(?0,?1,?2)", "h(?1,?2,?0)", 1);
        unify("f(?0,?0)", "f(?1,g(?1))", 2);
        unify("f(f(?0,?1),?2)", "f(?2,f(g(?1),g(?0)))", 2);
        unify("f(?0,?0)", "f(g(?1),g(g(?2)))", 1);
        // A RING that is not at the top, behind what is fine.
        unify("h(a,?3,f(?0,?1))", "h(a,?4,f(?1,g(?0)))", 2);
        // A TERM would be in itself only as the part of what it must be like.
        unify("f(g(?0),?0)", "f(?1,g(?1))", 2);
        unify("h(?0,?1,?2)", "h(f(?1,?1),f(?2,?2),f(?0,a))", 2);
    }

    /** "a CLASH ..; else a RING": with both it is a CLASH, wherever it stands. */
    private static void unifiedClashBeforeRing() {
        unify("f(?0,a)", "f(g(?0),b)", 0);
        unify("f(a,?0)", "f(b,g(?0))", 0);
        unify("f(?0,a)", "f(g(?0),a)", 2);
        unify("h(?0,?1,a)", "h(g(?1),g(?0),b)", 0);
        unify("h(?0,?1,a)", "h(g(?1),g(?0),a)", 2);
        // The CLASH comes only by what must be alike because of the RING: g(?0) and f(?0,?0), both ?1.
        unify("h(?0,?1,?1)", "h(g(?0),g(?0),f(?0,?0))", 0);
        unify("h(?0,?0,?1)", "h(g(?1),g(a),g(?1))", 0);
    }

    /** A RING is none of the BINDINGS that may be FULL. */
    private static void unifiedRingBeforeFull() {
        unify("h(?0,?1,?2)", "h(g(g(g(?1))),g(g(g(?2))),g(?2))", 2);
        unify("h(?2,?1,?0)", "h(g(?2),g(g(g(?2))),g(g(g(?1))))", 2);
        unify("h(?0,?1,a)", "h(g(g(g(?1))),g(g(g(?2))),b)", 0);
    }

    private static void binds(String s, String t, String... due) {
        TermBank bank = with(s, t, "?5", "?7");
        bank.bind(7, made(bank, "?5"));
        int left = made(bank, s);
        int right = made(bank, t);
        bank.image();
        for (int turn = 0; turn < 2; turn++) {
            Checks.due(s + " with " + t, turn == 0 ? bank.unify(left, right) : bank.unify(right, left), 1);
            for (int v = 0; v < 8; v++) {
                Twins.same(s + " with " + t + ": ?" + v, text(bank, bank.bound(v)), v < due.length ? due[v] : "-");
            }
            bank.restore();
        }
    }

    /** "each VARIABLE that must be like a TERM that isn't one has that .. (others are none) .. no VARIABLE that has a BINDING" */
    private static void unifiedBindings() {
        binds("a", "a");
        binds("?0", "?0");
        binds("?0", "a", "a");
        binds("g(?0)", "g(g(?1))", "g(?1)");
        binds("f(?0,?1)", "f(g(?1),a)", "g(a)", "a");
        binds("h(?0,?1,?2)", "h(f(?1,?2),g(?2),b)", "f(g(b),b)", "g(b)", "b");
        binds("h(?0,?1,?2)", "h(f(?1,?2),g(?2),?3)", "f(g(?2),?2)", "g(?2)", "-", "?2");
        binds("f(?0,g(?1))", "f(?2,?2)", "g(?1)", "-", "g(?1)");
        binds("h(?0,?0,?2)", "h(?1,g(?3),?4)", "g(?3)", "g(?3)", "-", "-", "?2");
        binds("f(g(?0),?1)", "f(?1,g(a))", "a", "g(a)");
        binds("h(?3,?4,g(?3))", "h(?4,a,?0)", "g(a)", "-", "-", "a", "a");
        // All eight VARIABLES.
        binds("f(h(?0,?1,?2),h(?3,?4,?5))", "f(h(?1,?2,?3),h(?4,?5,?6))", "-", "?0", "?0", "?0", "?0", "?0", "?0");
        binds("f(h(?7,?6,?5),h(?4,?3,?2))", "f(h(?6,?5,?4),h(?3,?2,g(?1)))", "-", "-", "g(?1)", "g(?1)", "g(?1)", "g(?1)", "g(?1)",
            "g(?1)");
    }

    /** "of VARIABLES that need be like one another alone all have the least one of them, that itself none" */
    private static void unifiedLeastVariable() {
        binds("?3", "?4", "-", "-", "-", "-", "?3");
        binds("?4", "?3", "-", "-", "-", "-", "?3");
        binds("h(?7,?2,?7)", "h(?5,?5,?4)", "-", "-", "-", "-", "?2", "?2", "-", "?2");
        binds("f(?1,?6)", "f(?6,?1)", "-", "-", "-", "-", "-", "-", "?1");
        binds("h(?0,?2,?4)", "h(?1,?3,?5)", "-", "?0", "-", "?2", "-", "?4");
        binds("h(?5,g(?4),a)", "h(?3,g(?6),a)", "-", "-", "-", "-", "-", "?3", "?4");
    }

    /** "(which come by VARIABLES, rising)" */
    private static void unifiedTermsRising() {
        TermBank bank = with("h(?2,?1,?0)", "h(g(g(?3)),f(?3,g(?3)),g(?3))", "f(?3,?0)", "f(a,?4)");
        int left = made(bank, "f(h(?2,?1,?0),f(?3,?4))");
        int right = made(bank, "f(h(g(g(?3)),f(?3,g(?3)),g(?3)),f(a,g(g(g(?3)))))");
        int before = bank.count(1);
        Checks.due("they can be made alike", bank.unify(left, right), 1);
        String[] come = {"g(a)", "f(a,g(a))", "g(g(a))", "g(g(g(a)))"};
        for (int k = 0; k < come.length; k++) {
            Twins.same("what comes, no. " + k, text(bank, before + k), come[k]);
        }
        Checks.due("no more come", bank.count(1), before + come.length);
        String[] due = {"g(a)", "f(a,g(a))", "g(g(a))", "a", "g(g(g(a)))"};
        for (int v = 0; v < due.length; v++) {
            Twins.same("?" + v, text(bank, bank.bound(v)), due[v]);
        }
    }

    private static void unifiedThreeArguments() {
        binds("f(?0,?1)", "f(h(?1,a,?1),h(a,b,c))", "h(h(a,b,c),a,h(a,b,c))", "h(a,b,c)");
        binds("f(?0,?1)", "f(h(?2,?1,?3),g(a))", "h(?2,g(a),?3)", "g(a)");
        binds("f(?0,?1)", "f(h(?2,?3,?1),g(b))", "h(?2,?3,g(b))", "g(b)");
        // What must be made is 6 deep, by each ARGUMENT; one more would be FULL.
        String[][] deep = {{"g(g(g(g(", "))))"}, {"f(a,f(a,f(a,f(a,", "))))"}, {"f(f(f(f(", ",a),a),a),a)"},
            {"h(a,a,h(a,a,h(a,a,h(a,a,", "))))"}, {"h(a,h(a,h(a,h(a,", ",a),a),a),a)"}};
        for (String[] round : deep) {
            binds("f(?0,?1)", "f(" + round[0] + "?1" + round[1] + ",g(a))", round[0] + "g(a)" + round[1], "g(a)");
            binds("f(?1,?0)", "f(g(a)," + round[0] + "?1" + round[1] + ")", round[0] + "g(a)" + round[1], "g(a)");
            String s = "f(?0,?1)";
            String t = "f(" + round[0] + "?1" + round[1] + ",g(g(a)))";
            TermBank bank = with(s, t);
            int left = made(bank, s);
            int right = made(bank, t);
            Twins.refused(s + " with " + t, () -> with(s, t), b -> b.unify(left, right), -3, 2);
        }
    }

    private static void matchedRefused() {
        for (int wrong : new int[] {9, -1, -2, Integer.MIN_VALUE, Integer.MAX_VALUE}) {
            Twins.refused("match(" + wrong + ", 0)", BindingEdgesTest::some, bank -> bank.match(wrong, 0), -1, 1);
            Twins.refused("match(0, " + wrong + ")", BindingEdgesTest::some, bank -> bank.match(0, wrong), -1, 1);
            Twins.refused("match(" + wrong + ", 8)", BindingEdgesTest::some, bank -> bank.match(wrong, 8), -1, 1);
            Twins.refused("match(8, " + wrong + ")", BindingEdgesTest::some, bank -> bank.match(8, wrong), -1, 1);
        }
        Twins.acted("match(8, 8)", BindingEdgesTest::some, bank -> bank.match(8, 8), 1);
    }

    private static void match(String s, String t, String... due) {
        TermBank at = with(s, t, "?7");
        int left = made(at, s);
        int right = made(at, t);
        Twins.Build build = () -> {
            TermBank bank = with(s, t, "?7");
            bank.bind(7, 0);
            return bank;
        };
        if (due == null) {
            Twins.refused(s + " matches " + t, build, bank -> bank.match(left, right), 0, 3);
            return;
        }
        Twins.acted(s + " matches " + t, build, bank -> bank.match(left, right), 1);
        TermBank bank = build.bank();
        int before = bank.count(1);
        bank.match(left, right);
        for (int v = 0; v < 8; v++) {
            Twins.same(s + " matches " + t + ": ?" + v, text(bank, bank.bound(v)), v < due.length ? due[v] : "-");
        }
        Checks.due("nothing comes", bank.count(1), before);
        Checks.due("it, APPLIED, is the other one", bank.apply(left), right);
    }

    /** "BINDINGS of the VARIABLES of the first one (others are none) by which it, APPLIED, is the other one"; "0: it can't be" */
    private static void matchedBindings() {
        String[] no = null;
        match("?0", "a", "a");
        match("?0", "g(?0)", "g(?0)");
        match("?0", "?0", "?0");
        match("?0", "?1", "?1");
        match("a", "?0", no);
        match("a", "b", no);
        match("a", "a");
        match("g(?7)", "g(b)", "-", "-", "-", "-", "-", "-", "-", "b");
        match("g(a)", "g(?0)", no);
        match("f(?0,?0)", "f(a,a)", "a");
        match("f(?0,?0)", "f(a,b)", no);
        match("f(?0,?0)", "f(?1,?0)", no);
        match("f(?0,?1)", "f(?1,?0)", "?1", "?0");
        match("f(?0,?1)", "f(a,a)", "a", "a");
        match("h(?2,?1,?2)", "h(g(a),?2,g(a))", "-", "?2", "g(a)");
        match("h(?2,?1,?2)", "h(g(a),?2,g(b))", no);
        match("f(?0,g(?0))", "f(g(?0),g(g(?0)))", "g(?0)");
        match("f(g(?0),?0)", "f(g(a),b)", no);
        match("g(?0)", "f(?0,?0)", no);
        match("f(h(?0,?1,?2),h(?3,?4,?5))", "f(h(?5,?4,?3),h(?2,?1,?0))", "?5", "?4", "?3", "?2", "?1", "?0");
    }

    private static void commonRefused() {
        for (int wrong : new int[] {9, -1, -2, Integer.MIN_VALUE, Integer.MAX_VALUE}) {
            Twins.refused("common(" + wrong + ", 0)", BindingEdgesTest::some, bank -> bank.common(wrong, 0), -1, 1);
            Twins.refused("common(0, " + wrong + ")", BindingEdgesTest::some, bank -> bank.common(0, wrong), -1, 1);
            Twins.refused("common(" + wrong + ", 8)", BindingEdgesTest::some, bank -> bank.common(wrong, 8), -1, 1);
            Twins.refused("common(8, " + wrong + ")", BindingEdgesTest::some, bank -> bank.common(8, wrong), -1, 1);
        }
        Twins.acted("common(8, 8)", BindingEdgesTest::some, bank -> bank.common(8, 8), 8);
    }

    private static void common(String s, String t, String due) {
        TermBank bank = with(s, t);
        int left = made(bank, s);
        int right = made(bank, t);
        String bounds = Twins.bounds(bank);
        Twins.same("COMMON of " + s + ", " + t, text(bank, bank.common(left, right)), due);
        Twins.same("no BINDING by it", Twins.bounds(bank), bounds);
        Twins.acted("COMMON of " + s + ", " + t, () -> with(s, t), b -> b.common(left, right), with(s, t).common(left, right));
    }

    /** "where they have the same SYMBOL that ..; else (also of like VARIABLES) a VARIABLE: 0, 1 .. by the couples ..." */
    private static void commonOfCouples() {
        common("a", "a", "a");
        common("a", "b", "?0");
        common("?5", "?5", "?0");
        common("?5", "?4", "?0");
        common("g(?5)", "g(?5)", "g(?0)");
        common("g(a)", "g(g(a))", "g(?0)");
        common("f(a,b)", "f(b,a)", "f(?0,?1)");
        common("f(a,a)", "f(b,b)", "f(?0,?0)");
        common("f(a,?3)", "f(a,?3)", "f(a,?0)");
        common("f(?3,?4)", "f(?4,?3)", "f(?0,?1)");
        common("f(?3,?3)", "f(?4,?3)", "f(?0,?1)");
        common("h(a,b,a)", "h(b,c,b)", "h(?0,?1,?0)");
        common("h(g(a),f(a,b),?7)", "h(g(b),f(b,b),?7)", "h(g(?0),f(?0,b),?1)");
        common("h(f(?1,?2),?1,?2)", "h(f(a,b),a,b)", "h(f(?0,?1),?0,?1)");
        common("f(a,a)", "g(a)", "?0");
        // Each call has couples of its own.
        TermBank bank = with("f(a,b)", "f(b,a)", "f(c,a)", "f(?3,b)", "h(a,b,c)", "h(b,c,a)");
        Twins.same("f(a,b), f(b,a)", text(bank, bank.common(made(bank, "f(a,b)"), made(bank, "f(b,a)"))), "f(?0,?1)");
        Twins.same("h(a,b,c), h(b,c,a)", text(bank, bank.common(made(bank, "h(a,b,c)"), made(bank, "h(b,c,a)"))), "h(?0,?1,?2)");
        Twins.same("f(c,a), f(?3,b)", text(bank, bank.common(made(bank, "f(c,a)"), made(bank, "f(?3,b)"))), "f(?0,?1)");
        Twins.same("f(a,b), f(c,a)", text(bank, bank.common(made(bank, "f(a,b)"), made(bank, "f(c,a)"))), "f(?0,?1)");
        Twins.same("f(b,a), f(a,b)", text(bank, bank.common(made(bank, "f(b,a)"), made(bank, "f(a,b)"))), "f(?0,?1)");
    }

    private static final String LEFT = "h(h(?0,?1,?2),h(?3,?4,?5),h(?6,?7,";
    private static final String RIGHT = "h(h(?1,?2,?3),h(?4,?5,?6),h(?7,?0,";

    /** "none, if it would need more than 8"; promise 23: "-2 (STATUS 3): none." */
    private static void commonOfEight() {
        common(LEFT + "a))", RIGHT + "a))", "h(h(?0,?1,?2),h(?3,?4,?5),h(?6,?7,a))");
        common(LEFT + "?0))", RIGHT + "?1))", "h(h(?0,?1,?2),h(?3,?4,?5),h(?6,?7,?0))");
        common(LEFT + "?7))", RIGHT + "?0))", "h(h(?0,?1,?2),h(?3,?4,?5),h(?6,?7,?7))");
        for (String[] last : new String[][] {{"a", "b"}, {"?0", "?0"}, {"a", "?0"}, {"?1", "?0"}, {"g(a)", "a"}}) {
            TermBank bank = with(LEFT + last[0] + "))", RIGHT + last[1] + "))");
            int left = made(bank, LEFT + last[0] + "))");
            int right = made(bank, RIGHT + last[1] + "))");
            Twins.refused("a ninth: " + last[0] + ", " + last[1], () -> with(LEFT + last[0] + "))", RIGHT + last[1] + "))"),
                b -> b.common(left, right), -2, 3);
        }
    }

    /** Where there is none, it isn't FULL: with 400 terms, of which those in COMMON would not be there. */
    private static void commonNoneBeforeFull() {
        TermBank bank = Great.of(388);
        int f = 4;
        int g = Great.G;
        int r = Great.R;
        // Of nine unlike couples, under g, which are not there; the terms themselves fill the bank.
        int[] left = {Great.ZERO, Great.ONE, Great.THREE, Great.CONSTANT, 21, 26, 27, 28, Great.SZ};
        int[] right = {Great.ONE, Great.THREE, Great.CONSTANT, 21, 26, 27, 28, Great.ZERO, Great.GZ};
        int[] halves = new int[8];
        for (int k = 0; k < 3; k++) {
            halves[k] = bank.make(f, left[3 * k], left[3 * k + 1], left[3 * k + 2]);
            halves[4 + k] = bank.make(f, right[3 * k], right[3 * k + 1], right[3 * k + 2]);
        }
        int s = bank.make(f, halves[0], halves[1], halves[2]);
        int t = bank.make(f, halves[4], halves[5], halves[6]);
        int gs = bank.make(g, s, 0, 0);
        int gt = bank.make(g, t, 0, 0);
        bank.make(r, gs, 0, 0);
        bank.make(r, gt, 0, 0);
        Checks.due("400 terms", bank.count(1), 400);
        Checks.due("none", bank.common(gs, gt), -2);
        Checks.due("STATUS 3", bank.count(16), 1);
        Checks.due("not FULL", bank.count(15), 0);
        Checks.due("the parts alone would be FULL", bank.common(halves[0], halves[4]), -3);
        Checks.due("STATUS 2", bank.count(15), 1);
    }

    /** Promise 10: "0 they are one, 1 s is GREATER, 2 t is, 3 neither. NoSuchElementException." */
    private static void orderRefused() {
        for (int wrong : new int[] {9, -1, -2, Integer.MIN_VALUE, Integer.MAX_VALUE}) {
            Twins.noSuch("order(" + wrong + ", 0)", BindingEdgesTest::some, bank -> bank.order(wrong, 0));
            Twins.noSuch("order(0, " + wrong + ")", BindingEdgesTest::some, bank -> bank.order(0, wrong));
            Twins.noSuch("order(" + wrong + ", " + wrong + ")", BindingEdgesTest::some, bank -> bank.order(wrong, wrong));
        }
        for (int t = 0; t < 9; t++) {
            int term = t;
            Twins.asked("order(" + t + ", " + t + ")", BindingEdgesTest::some, bank -> bank.order(term, term), 0);
        }
    }

    private static void order(String s, String t, int answer) {
        TermBank bank = with(s, t);
        int left = made(bank, s);
        int right = made(bank, t);
        Checks.due("order of " + s + ", " + t, bank.order(left, right), answer);
        Checks.due("order of " + t + ", " + s, bank.order(right, left), answer == 3 ? 3 : 3 - answer);
    }

    /** "each VARIABLE stands in s at least as often as in t" */
    private static void orderByVariables() {
        order("?0", "?1", 3);
        order("?0", "a", 3);
        order("?0", "c", 3);
        order("g(?0)", "?0", 1);
        order("g(?0)", "?1", 3);
        order("f(?0,?0)", "g(?0)", 1);
        order("f(?0,?0)", "f(?0,a)", 3);
        order("f(?0,g(a))", "f(?0,?0)", 3);
        order("f(?0,g(?0))", "f(?0,?0)", 1);
        order("h(?0,?1,?7)", "f(?0,?7)", 1);
        order("h(?0,?1,?6)", "f(?0,?7)", 3);
        order("h(?0,?1,?7)", "f(?7,?7)", 3);
        order("h(?7,?1,?7)", "f(?7,?7)", 1);
    }

    /** "WEIGHT of s is more": VARIABLES are of WEIGHT 1 */
    private static void orderByWeight() {
        order("c", "a", 1);
        order("c", "b", 1);
        order("g(a)", "a", 1);
        order("f(a,a)", "g(a)", 1);
        order("g(b)", "c", 1);
        order("g(c)", "h(a,a,a)", 2);
        order("h(a,?0,a)", "f(c,?0)", 1);
        order("f(?0,c)", "f(?0,b)", 1);
        order("g(g(?0))", "f(?0,a)", 2);
        order("f(?0,a)", "g(?0)", 1);
    }

    /** "or as much, neither is one, and the SYMBOL of s is of a greater number" */
    private static void orderBySymbol() {
        order("b", "a", 1);
        order("g(a)", "c", 1);
        order("f(a,a)", "g(c)", 1);
        order("f(a,a)", "g(g(a))", 1);
        order("f(?0,?0)", "g(f(?0,?0))", 2);
        order("h(?0,?0,a)", "f(?0,g(?0))", 1);
        order("f(?0,g(?0))", "h(?0,?0,?0)", 2);
        order("h(?0,a,a)", "f(?0,g(?0))", 3);
    }

    /** "or is the same and of the first ARGUMENTS that are unlike that of s is GREATER" */
    private static void orderByArguments() {
        order("g(b)", "g(a)", 1);
        order("f(a,b)", "f(a,a)", 1);
        order("f(b,a)", "f(a,b)", 1);
        order("f(c,a)", "f(a,c)", 1);
        order("f(g(a),a)", "f(c,b)", 1);
        order("h(a,a,b)", "h(a,a,a)", 1);
        order("h(a,b,a)", "h(a,a,b)", 1);
        order("h(b,a,a)", "h(a,b,b)", 1);
        order("f(?0,b)", "f(?0,a)", 1);
        order("f(b,?0)", "f(?0,b)", 3);
        order("f(g(?0),?1)", "f(?0,g(?1))", 1);
        order("f(?0,?1)", "f(?1,?0)", 3);
        order("f(g(?0),?0)", "f(?0,g(?0))", 1);
        order("f(f(a,b),a)", "f(f(a,a),b)", 1);
        order("f(f(?0,?1),?2)", "f(?0,f(?1,?2))", 1);
        // Of the first unlike arguments it is the other way round, though a later one is greater.
        order("f(a,c)", "f(b,b)", 1);
        order("h(a,c,a)", "h(b,a,c)", 2);
        // The first unlike arguments are VARIABLES, or one of them: neither.
        order("h(?0,?1,b)", "h(?1,?0,a)", 3);
        order("f(a,?0)", "f(?0,a)", 3);
    }
}
