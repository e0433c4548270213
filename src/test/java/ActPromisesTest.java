/** Promises 16 to 30: the acts. */
public final class ActPromisesTest {
    /** Terms: 0 ?0, 1 a, 2 g(a), 3 f(?0,g(a)), 4 g(?0), 5 g(g(?0)), 6 f(?0,a), 7 ?1, 8 f(?1,?1). */
    private static final String BASE = "symbol a 0 1;symbol f 2 2;symbol g 1 1;term f(?0,g(a));rule g(g(?0)) to ?0;"
        + "rule f(?0,a) to ?0;entry f(?1,?1);entry g(?0);room 3;";
    private static final String PLAIN = "symbol a 0 1;symbol f 2 1;symbol g 1 1;symbol h 3 1;symbol b 0 1;";

    private ActPromisesTest() { }

    public static void main(String[] args) {
        variables();
        makes();
        binds();
        applies();
        closes();
        unifies();
        unifiesVariables();
        unifiesClashBeforeRing();
        unifiesFull();
        matches();
        commons();
        commonsTooMany();
        normals();
        normalsMemo();
        normalsTooMuch();
        normalsFull();
        puts();
        rules();
        entersAndLeaves();
        rooms();
        draws();
        Checks.end();
    }

    /** That nothing but one number of STATUS has changed by a call that is refused. */
    private static void refused(String what, TermBank bank, Checks.Call call, int answer, int kind) {
        int[] before = state(bank);
        Checks.due(what, Checks.answer(call), answer);
        before[13 + kind]++;
        int[] after = state(bank);
        for (int k = 0; k < before.length; k++) {
            Checks.due(what + ", number " + k + " of the state", after[k], before[k]);
        }
    }

    private static int[] state(TermBank bank) {
        int[] all = new int[17 + 8];
        for (int k = 0; k < 17; k++) {
            all[k] = bank.count(k);
        }
        for (int v = 0; v < 8; v++) {
            all[17 + v] = bank.bound(v);
        }
        return all;
    }

    private static void variables() {
        TermBank bank = new TermBank();
        Checks.due("variable(7)", bank.variable(7), 0);
        Checks.due("variable(0)", bank.variable(0), 1);
        Checks.due("variable(7) again", bank.variable(7), 0);
        Checks.due("two terms", bank.count(1), 2);
        Checks.due("three acts", bank.count(11), 3);
        refused("variable(8)", bank, () -> bank.variable(8), -1, 1);
    }

    private static void makes() {
        TermBank bank = Checks.bankOf(PLAIN);
        int a = bank.make(0, -1, -1, -1);
        Checks.due("a constant looks at no argument", a, 0);
        Checks.due("the same is one", bank.make(0, 5, 6, 7), a);
        Checks.due("an act all the same", bank.count(11), 2);
        int x = bank.variable(0);
        int g = bank.make(2, x, 77, -5);
        Checks.due("arguments beyond the arity aren't looked at", g, 2);
        Checks.due("f(?0,g(?0))", bank.make(1, x, g, 99), 3);
        Checks.due("h(a,?0,g(?0))", bank.make(3, a, x, g), 4);
        Checks.due("its third one", bank.argument(4, 2), g);
        refused("no such symbol 5", bank, () -> bank.make(5, 0, 0, 0), -1, 1);
        refused("no first", bank, () -> bank.make(2, 5, 0, 0), -1, 1);
        refused("no second", bank, () -> bank.make(1, 0, 5, 0), -1, 1);
        refused("no third", bank, () -> bank.make(3, 0, 0, 5), -1, 1);
        int deep = x;
        for (int k = 0; k < 5; k++) {
            deep = bank.make(2, deep, 0, 0);
        }
        int six = deep;
        Checks.due("depth 6", bank.term(six, 4), 6);
        refused("depth 7 is FULL", bank, () -> bank.make(2, six, 0, 0), -3, 2);
        refused("also as one of three", bank, () -> bank.make(3, 0, 0, six), -3, 2);
    }

    private static void binds() {
        TermBank bank = Checks.bankOf(BASE);
        Checks.due("bind(0, 4)", bank.bind(0, 4), -1);
        Checks.due("bind(0, 2)", bank.bind(0, 2), 4);
        Checks.due("bind(7, 0)", bank.bind(7, 0), -1);
        Checks.due("bound", bank.bound(0), 2);
        refused("so already", bank, () -> bank.bind(0, 2), -2, 1);
        refused("none already", bank, () -> bank.bind(3, -1), -2, 1);
        refused("no such term", bank, () -> bank.bind(3, 9), -2, 1);
        refused("no such variable", bank, () -> bank.bind(8, 0), -2, 1);
        refused("term -2", bank, () -> bank.bind(0, -2), -2, 1);
        Checks.due("none any more", bank.bind(0, -1), 2);
        Checks.due("bound no more", bank.bound(0), -1);
        Checks.due("a variable to itself", bank.bind(0, 0), -1);
        Checks.due("acts", bank.count(11), 5);
        Checks.due("no term came", bank.count(1), 9);
    }

    private static void applies() {
        TermBank bank = Checks.bankOf(BASE);
        bank.bind(0, 4);
        bank.bind(1, 0);
        Checks.due("a variable", bank.apply(0), 4);
        Checks.due("once: g(?0) is g(g(?0))", bank.apply(4), 5);
        Checks.due("all at once: f(?1,?1) is f(?0,?0)", bank.apply(8), 9);
        Checks.due("nothing bound in it", bank.apply(2), 2);
        // f(?0,g(a)) is f(g(?0),g(a))
        Checks.due("f(g(?0),g(a))", bank.apply(3), 10);
        Checks.due("its first", bank.argument(10, 0), 4);
        Checks.due("acts", bank.count(11), 7);
        bank.bind(0, 0);
        Checks.due("bound to itself", bank.apply(5), 5);
        refused("no such term", bank, () -> bank.apply(11), -1, 1);
        bank.bind(0, 5);
        int five = bank.apply(5);
        Checks.due("depth 5", bank.term(five, 4), 5);
        refused("depth 7", bank, () -> bank.apply(five), -3, 2);
    }

    private static void closes() {
        TermBank bank = Checks.bankOf(PLAIN + "term f(?0,?1);term g(?1);term h(?2,?2,a);term f(?3,?3);");
        // ?0 0, ?1 1, f(?0,?1) 2, g(?1) 3, ?2 4, a 5, h(?2,?2,a) 6, ?3 7, f(?3,?3) 8
        bank.bind(0, 3);
        bank.bind(1, 6);
        bank.bind(2, 5);
        // h(a,a,a) comes first, for ?1 in g(?1), then g(h(a,a,a)), then f(..)
        Checks.due("closed f(?0,?1)", bank.close(2), 11);
        Checks.due("h(a,a,a)", bank.term(9, 0), 3);
        Checks.due("g(h(a,a,a))", bank.argument(10, 0), 9);
        Checks.due("f(g(h(a,a,a)),h(a,a,a))", bank.argument(11, 1), 9);
        Checks.due("nothing else came", bank.count(1), 12);
        Checks.due("no variable is left", bank.term(11, 6), 0);
        Checks.due("nothing bound in it", bank.close(8), 8);
        bank.bind(2, 2);
        refused("a RING ?0 ?1 ?2 ?0", bank, () -> bank.close(0), -2, 3);
        refused("a RING from outside it", bank, () -> bank.close(6), -2, 3);
        Checks.due("what doesn't lead to it is closed", bank.close(8), 8);
        bank.bind(3, 7);
        refused("a variable bound to itself is a RING", bank, () -> bank.close(8), -2, 3);
        refused("no such term", bank, () -> bank.close(12), -1, 1);
        TermBank chain = Checks.bankOf("symbol g 1 1;symbol a 0 1;term g(g(g(g(g(a)))));");
        for (int v = 0; v < 8; v++) {
            chain.variable(v);
        }
        for (int v = 0; v < 7; v++) {
            chain.bind(v, 6 + v + 1);
        }
        chain.bind(7, 5);
        Checks.due("by all variables to the deepest term", chain.close(6), 5);
        Checks.due("g(?0) is FULL", chain.close(chain.make(0, 6, 0, 0)), -3);
        TermBank deep = Checks.bankOf("symbol g 1 1;term g(g(g(?1)));term g(g(g(?0)));");
        // ?1 0, g(?1) 1, gg(?1) 2, ggg(?1) 3, ?0 4, g(?0) 5, gg(?0) 6, ggg(?0) 7
        deep.bind(0, 3);
        refused("depth 7 is FULL", deep, () -> deep.close(7), -3, 2);
        Checks.due("depth 6 isn't", deep.term(deep.close(6), 4), 6);
        deep.bind(1, 7);
        refused("a RING before FULL", deep, () -> deep.close(7), -2, 3);
    }

    private static void unifies() {
        TermBank bank = Checks.bankOf(BASE);
        bank.bind(5, 1);
        Checks.due("f(?0,g(a)), f(?1,?1)", bank.unify(3, 8), 1);
        Checks.due("?0 is g(a)", bank.bound(0), 2);
        Checks.due("?1 is g(a)", bank.bound(1), 2);
        Checks.due("others are none", bank.bound(5), -1);
        Checks.due("nothing came", bank.count(1), 9);
        Checks.due("a variable with itself", bank.unify(0, 0), 1);
        Checks.due("none bound", bank.bound(0), -1);
        refused("g(a), f(?0,g(a)): a CLASH", bank, () -> bank.unify(2, 3), 0, 3);
        refused("?0, g(?0): a RING", bank, () -> bank.unify(0, 4), 2, 3);
        refused("g(?0), g(g(?0)): a RING", bank, () -> bank.unify(4, 5), 2, 3);
        Checks.due("two like terms", bank.unify(3, 3), 1);
        refused("no such term", bank, () -> bank.unify(0, 9), -1, 1);
    }

    private static void unifiesVariables() {
        TermBank bank = Checks.bankOf(PLAIN + "term h(?5,?3,?7);term h(?3,?7,?5);");
        Checks.due("a circle of variables", bank.unify(3, 4), 1);
        // ?5 0, ?3 1, ?7 2
        Checks.due("?5 has the least", bank.bound(5), 1);
        Checks.due("?7 has the least", bank.bound(7), 1);
        Checks.due("?3 itself none", bank.bound(3), -1);
        TermBank come = Checks.bankOf(PLAIN + "term h(?1,?0,?2);term h(g(?2),f(?1,?1),?3);");
        // ?1 0, ?0 1, ?2 2, h 3, g(?2) 4, f(?1,?1) 5, ?3 6, h 7
        Checks.due("bound ones stand in none of these", come.unify(3, 7), 1);
        // By variables rising: ?0 is f(g(?2),g(?2)), which comes; ?1 is g(?2); ?3 is ?2.
        Checks.due("?0", come.bound(0), 8);
        Checks.due("?1", come.bound(1), 4);
        Checks.due("?2", come.bound(2), -1);
        Checks.due("?3", come.bound(3), 2);
        Checks.due("f(g(?2),g(?2))", come.argument(8, 0), 4);
        Checks.due("one came", come.count(1), 9);
        TermBank rising = Checks.bankOf(PLAIN + "term h(?1,?0,?2);term h(f(?2,?2),f(?2,g(?2)),a);");
        // ?1 0, ?0 1, ?2 2, h 3, f(?2,?2) 4, g(?2) 5, f(?2,g(?2)) 6, a 7, h 8
        Checks.due("all is put in", rising.unify(3, 8), 1);
        // ?0 is f(a,g(a)): g(a) 9, then it 10; ?1 is f(a,a), 11.
        Checks.due("g(a) comes first", rising.term(9, 0), 2);
        Checks.due("?0 is f(a,g(a))", rising.bound(0), 10);
        Checks.due("?1 is f(a,a)", rising.bound(1), 11);
        Checks.due("?2 is a", rising.bound(2), 7);
        Checks.due("no more come", rising.count(1), 12);
    }

    private static void unifiesClashBeforeRing() {
        TermBank bank = Checks.bankOf(PLAIN + "term f(?0,a);term f(g(?0),b);term f(?0,?1);term f(g(?0),a);"
            + "term f(?0,f(?0,?0));term f(?1,f(g(?1),h(?1,?1,?1)));");
        int[] at = new int[6];
        int k = 0;
        for (int t = 0; t < bank.count(1); t++) {
            if (bank.term(t, 0) == 1 && bank.term(t, 7) == 0 && k < 6) {
                at[k] = t;
                k++;
            }
        }
        Checks.due("six terms", k, 6);
        refused("a RING on the left, a CLASH on the right", bank, () -> bank.unify(at[0], at[1]), 0, 3);
        refused("the RING alone", bank, () -> bank.unify(at[2], at[3]), 2, 3);
        refused("a CLASH that comes by what must be alike", bank, () -> bank.unify(at[4], at[5]), 0, 3);
        TermBank hidden = Checks.bankOf(PLAIN + "term f(?0,?0);term f(g(?1),g(f(?1,?1)));");
        refused("?1 would be in itself", hidden, () -> hidden.unify(1, hidden.count(1) - 1), 2, 3);
    }

    private static void unifiesFull() {
        TermBank bank = Checks.bankOf(PLAIN + "term f(?0,?1);term f(g(g(g(?1))),g(g(g(a))));");
        int first = 2;
        int second = bank.count(1) - 1;
        refused("?0 would be 7 deep", bank, () -> bank.unify(first, second), -3, 2);
        TermBank fine = Checks.bankOf(PLAIN + "term f(?0,?1);term f(g(g(g(?1))),g(g(a)));");
        Checks.due("6 deep is fine", fine.unify(2, fine.count(1) - 1), 1);
        Checks.due("it is", fine.term(fine.bound(0), 4), 6);
        TermBank ring = Checks.bankOf(PLAIN + "term h(?0,?1,?2);term h(g(g(g(?1))),g(g(g(?2))),g(?2));");
        refused("a RING before FULL", ring, () -> ring.unify(3, ring.count(1) - 1), 2, 3);
    }

    private static void matches() {
        TermBank bank = Checks.bankOf(BASE);
        bank.bind(6, 1);
        int ff = bank.make(1, 2, 2, 0);
        Checks.due("f(?1,?1), f(g(a),g(a))", bank.match(8, ff), 1);
        Checks.due("?1", bank.bound(1), 2);
        Checks.due("others are none", bank.bound(6), -1);
        refused("f(?1,?1), f(?0,g(a))", bank, () -> bank.match(8, 3), 0, 3);
        refused("the other way", bank, () -> bank.match(ff, 8), 0, 3);
        Checks.due("?1 with f(?1,?1): variables of the other one stay", bank.match(7, 8), 1);
        Checks.due("?1 is f(?1,?1)", bank.bound(1), 8);
        Checks.due("a term with itself", bank.match(3, 3), 1);
        Checks.due("?0 is bound to itself", bank.bound(0), 0);
        Checks.due("without variables", bank.match(2, 2), 1);
        Checks.due("then none are bound", bank.bound(0), -1);
        refused("a constant isn't a variable", bank, () -> bank.match(1, 0), 0, 3);
        refused("no such term", bank, () -> bank.match(0, 10), -1, 1);
    }

    private static void commons() {
        TermBank bank = Checks.bankOf(BASE);
        // f(?0,g(a)) and f(?1,?1): f(?0,?1)
        Checks.due("f(?0,?1)", bank.common(3, 8), 9);
        Checks.due("its second is ?1", bank.argument(9, 1), 7);
        int ff = bank.make(1, 2, 2, 0);
        Checks.due("like couples like ones: f(?0,?0)", bank.common(ff, 8), 11);
        Checks.due("its arguments", bank.argument(11, 0) + bank.argument(11, 1), 0);
        Checks.due("ground and like: itself", bank.common(2, 2), 2);
        Checks.due("like variables are a couple: ?0", bank.common(7, 7), 0);
        Checks.due("f(?1,?1) with itself: f(?0,?0)", bank.common(8, 8), 11);
        Checks.due("unlike ones: ?0", bank.common(1, 3), 0);
        refused("no such term", bank, () -> bank.common(0, 12), -1, 1);
        TermBank order = Checks.bankOf(PLAIN + "term f(a,b);term f(b,a);");
        int made = order.common(2, 3);
        Checks.due("couples are in order: f(?0,?1)", order.term(order.argument(made, 1), 1), 1);
        Checks.due("variables come from the left", order.term(4, 1), 0);
    }

    private static void commonsTooMany() {
        TermBank bank = Checks.bankOf("symbol h 3 1;symbol a 0 1;term h(h(?0,?1,?2),h(?3,?4,?5),h(?6,?7,a));"
            + "term h(h(?1,?2,?3),h(?4,?5,?6),h(?7,?0,?0));term h(h(?1,?2,?3),h(?4,?5,?6),h(?7,?0,a));");
        int[] tops = new int[3];
        int k = 0;
        for (int t = 0; t < bank.count(1); t++) {
            if (bank.term(t, 4) == 3) {
                tops[k] = t;
                k++;
            }
        }
        refused("9 couples", bank, () -> bank.common(tops[0], tops[1]), -2, 3);
        int made = bank.common(tops[0], tops[2]);
        Checks.due("8 couples are fine", bank.term(made, 6), 255);
        Checks.due("it is the first one", made, tops[0]);
    }

    private static void normals() {
        TermBank bank = Checks.bankOf(BASE);
        Checks.due("a variable is itself", bank.normal(0), 0);
        Checks.due("no memo of it", bank.count(5), 0);
        Checks.due("g(g(?0))", bank.normal(5), 0);
        Checks.due("one STEP", bank.count(7), 1);
        Checks.due("no HIT", bank.count(6), 0);
        Checks.due("again", bank.normal(5), 0);
        Checks.due("a HIT", bank.count(6), 1);
        Checks.due("no more STEPS", bank.count(7), 1);
        Checks.due("no step in it", bank.normal(8), 8);
        refused("no such term", bank, () -> bank.normal(9), -1, 1);
        TermBank first = Checks.bankOf("symbol a 0 1;symbol b 0 1;symbol g 1 1;rule g(b) to a;rule g(?0) to ?0;rule b to a;"
            + "term g(g(b));");
        // b is a first, so g(b) never matches: g(a) is a, and again.
        Checks.due("ARGUMENTS first", first.normal(first.count(1) - 1), first.rule(0, 1));
        Checks.due("three STEPS", first.count(7), 3);
        // b, g(b), a, ?0, g(?0), g(g(b)); then g(a), made of what is normal.
        Checks.due("what it is made of came", first.count(1), 7);
        Checks.due("g(a)", first.make(2, first.rule(0, 1), 0, 0), 6);
        TermBank both = Checks.bankOf("symbol a 0 1;symbol b 0 2;symbol g 1 1;rule g(?0) to a;rule g(a) to a;term g(b);");
        Checks.due("the first RULE", both.normal(both.count(1) - 1), both.rule(0, 1));
    }

    private static void normalsMemo() {
        TermBank bank = Checks.bankOf(BASE);
        bank.normal(5);
        bank.normal(4);
        Checks.due("the one used goes last", bank.memo(0, 0), 5);
        Checks.due("it is there once", bank.count(5), 2);
        int t = bank.make(1, 5, 1, 0);
        Checks.due("f(g(g(?0)),a)", bank.normal(t), 0);
        int[] asked = {5, 1, t};
        for (int i = 0; i < 3; i++) {
            Checks.due("memo(" + i + ", 0)", bank.memo(i, 0), asked[i]);
        }
        Checks.due("what it has for a", bank.memo(1, 1), 1);
        Checks.due("room for 3", bank.count(5), 3);
        TermBank none = Checks.bankOf(BASE.replace("room 3", "room 0"));
        none.normal(5);
        none.normal(5);
        Checks.due("room 0 keeps none", none.count(5), 0);
        Checks.due("no HIT", none.count(6), 0);
        Checks.due("STEPS again", none.count(7), 2);
        TermBank step = Checks.bankOf("symbol a 0 1;symbol b 0 1;symbol g 1 1;rule g(b) to g(a);term g(b);");
        int gb = step.count(1) - 1;
        // b, then a and g(a) behind the step, then g(b) itself.
        int ga = step.normal(step.rule(0, 0));
        Checks.due("g(a)", ga, step.rule(0, 1));
        int[] order = {step.argument(step.rule(0, 0), 0), step.argument(ga, 0), ga, step.rule(0, 0)};
        for (int i = 0; i < 4; i++) {
            Checks.due("order of memo " + i, step.memo(i, 0), order[i]);
        }
        Checks.due("answer for g(b)", step.memo(3, 1), ga);
        Checks.due("terms", gb, 3);
    }

    private static void normalsTooMuch() {
        TermBank bank = Checks.bankOf("symbol a 0 1;symbol b 0 1;symbol f 3 1;symbol g 2 1;rule b to a;room 0;term f(b,b,b);");
        int t3 = bank.count(1) - 1;
        int t9 = bank.make(2, t3, t3, t3);
        int t27 = bank.make(2, t9, t9, t9);
        int t81 = bank.make(2, t27, t27, t27);
        int b = bank.rule(0, 0);
        bank.normal(t81);
        Checks.due("81 STEPS", bank.count(7), 81);
        int t99 = bank.make(2, t81, t9, t9);
        bank.normal(t99);
        Checks.due("99 STEPS more", bank.count(7), 180);
        int t100 = bank.make(2, t81, t9, bank.make(3, t9, b, 0));
        Checks.due("100 STEPS are fine", bank.normal(t100) >= 0 ? 1 : 0, 1);
        int t101 = bank.make(2, t81, t9, bank.make(3, t9, bank.make(3, b, b, 0), 0));
        refused("101 are TOO MUCH", bank, () -> bank.normal(t101), -2, 2);
        int tt = bank.make(2, t81, t27, t3);
        refused("111 are TOO MUCH", bank, () -> bank.normal(tt), -2, 2);
        bank.room(9);
        Checks.due("a memo spares STEPS", bank.normal(tt) >= 0 ? 1 : 0, 1);
        Checks.due("one STEP of b", bank.count(7), 281);
    }

    private static void normalsFull() {
        // The right side is as great, but deeper by one.
        TermBank bank = Checks.bankOf("symbol g 1 1;symbol f 2 2;symbol h 2 3;rule h(?0,?1) to f(g(?0),?1);"
            + "term g(g(g(g(?0))));");
        int deep = bank.count(1) - 1;
        int zero = bank.variable(0);
        int h = bank.make(2, deep, zero, 0);
        Checks.due("depth 6", bank.term(h, 4), 6);
        refused("f(g(..),?0) would be 7 deep", bank, () -> bank.normal(h), -3, 2);
        Checks.due("no STEP stays", bank.count(7), 0);
    }

    private static void puts() {
        TermBank bank = Checks.bankOf(BASE);
        Checks.due("place 0 is the whole", bank.put(3, 0, 1), 1);
        Checks.due("f(?0,?0)", bank.put(3, 2, 0), 9);
        Checks.due("f(?0,g(g(g(?0))))", bank.put(3, 3, 5), 11);
        Checks.due("g(g(g(?0))) came ahead", bank.argument(11, 1), 10);
        Checks.due("what is there stays one", bank.put(3, 1, 0), 3);
        Checks.due("only that place", bank.put(8, 1, 1), 12);
        Checks.due("f(a,?1)", bank.argument(12, 1), 7);
        refused("no such place", bank, () -> bank.put(3, 4, 0), -1, 1);
        refused("no such term", bank, () -> bank.put(13, 0, 0), -1, 1);
        refused("no such other", bank, () -> bank.put(0, 0, 13), -1, 1);
        int five = bank.put(11, 4, 4);
        Checks.due("depth 6", bank.term(bank.put(five, 5, 4), 4), 6);
        int six = bank.put(five, 5, 4);
        refused("depth 7 and more", bank, () -> bank.put(six, 5, 5), -3, 2);
    }

    private static void rules() {
        TermBank bank = Checks.bankOf(BASE);
        bank.normal(5);
        refused("a LEFT that is a VARIABLE", bank, () -> bank.rules(0, 1), -1, 1);
        refused("not GREATER", bank, () -> bank.rules(1, 2), -1, 1);
        refused("like ones", bank, () -> bank.rules(2, 2), -1, 1);
        refused("a VARIABLE of the right side only", bank, () -> bank.rules(3, 7), -1, 1);
        refused("no such left", bank, () -> bank.rules(9, 0), -1, 1);
        refused("no such right", bank, () -> bank.rules(5, 9), -1, 1);
        Checks.due("memo is there", bank.count(5), 2);
        Checks.due("g(a) to a", bank.rules(2, 1), 3);
        Checks.due("memo is empty", bank.count(5), 0);
        Checks.due("f(?0,g(a)) is ?0 by it", bank.normal(3), 0);
        Checks.due("LEFT", bank.rule(2, 0), 2);
        for (int k = 4; k <= 8; k++) {
            Checks.due("like rules may come", bank.rules(2, 1), k);
        }
        refused("there are 8", bank, () -> bank.rules(2, 1), -1, 1);
        TermBank great = Checks.bankOf("symbol f 3 1;symbol g 1 1;term f(f(?0,?0,?0),f(?0,?0,?0),?0);");
        int ten = great.count(1) - 1;
        Checks.due("size 10", great.term(ten, 2), 10);
        int twelve = great.make(1, great.make(1, ten, 0, 0), 0, 0);
        int thirteen = great.make(1, twelve, 0, 0);
        refused("size 13", great, () -> great.rules(thirteen, 0), -1, 1);
        refused("size 13 is too much, though both are", great, () -> great.rules(thirteen, twelve), -1, 1);
        Checks.due("size 12", great.rules(twelve, 0), 1);
        TermBank right = Checks.bankOf("symbol f 3 1;symbol g 1 1;symbol h 1 9;symbol p 1 9;term f(f(?0,?0,?0),f(?0,?0,?0),?0);");
        int part = right.count(1) - 1;
        int gg = right.make(1, right.make(1, part, 0, 0), 0, 0);
        int ggg = right.make(1, gg, 0, 0);
        int hp = right.make(2, right.make(3, part, 0, 0), 0, 0);
        Checks.due("a RIGHT of size 12", right.rules(hp, gg), 1);
        refused("a RIGHT of size 13, though less", right, () -> right.rules(hp, ggg), -1, 1);
        Checks.due("it is less", right.order(hp, ggg), 1);
    }

    private static void entersAndLeaves() {
        TermBank bank = Checks.bankOf(BASE);
        refused("one already", bank, () -> bank.enter(8), -1, 1);
        refused("none to leave", bank, () -> bank.leave(3), -1, 1);
        refused("no such term enters", bank, () -> bank.enter(9), -1, 1);
        refused("no such term leaves", bank, () -> bank.leave(9), -1, 1);
        Checks.due("enter(3)", bank.enter(3), 3);
        Checks.due("which it is", bank.term(3, 8), 2);
        Checks.due("leave(8)", bank.leave(8), 2);
        Checks.due("it is none", bank.term(8, 8), -1);
        Checks.due("those behind it are one less", bank.term(3, 8), 1);
        Checks.due("it comes again, last", bank.enter(8), 3);
        Checks.due("the last one", bank.entry(2), 8);
        for (int v = 2; v < 8; v++) {
            bank.enter(bank.variable(v));
        }
        bank.enter(0);
        bank.enter(1);
        Checks.due("the 12th", bank.enter(2), 12);
        refused("there are 12", bank, () -> bank.enter(5), -1, 1);
        Checks.due("one goes", bank.leave(4), 11);
        Checks.due("one more can come", bank.enter(5), 12);
    }

    private static void rooms() {
        TermBank bank = Checks.bankOf(BASE);
        bank.normal(5);
        refused("room(10)", bank, () -> bank.room(10), -1, 1);
        Checks.due("memo is there", bank.count(5), 2);
        Checks.due("room(9)", bank.room(9), 3);
        Checks.due("memo is empty", bank.count(5), 0);
        Checks.due("ROOM", bank.count(4), 9);
        bank.normal(5);
        Checks.due("the same again", bank.room(9), 9);
        Checks.due("empties, too", bank.count(5), 0);
        Checks.due("room(1)", bank.room(1), 9);
        bank.normal(5);
        Checks.due("room for one", bank.count(5), 1);
        Checks.due("the last one used", bank.memo(0, 0), 5);
        Checks.due("room(0)", bank.room(0), 1);
    }

    private static void draws() {
        TermBank empty = new TermBank();
        refused("depth 0", empty, () -> empty.draw(1, 0), -1, 1);
        refused("depth 5", empty, () -> empty.draw(1, 5), -1, 1);
        for (int seed = -5; seed < 60; seed += 7) {
            int second = (seed * 1103515245 + 12345) * 1103515245 + 12345;
            int variable = (second >>> 16 & 0x7fff) % 3;
            Checks.due("the second DRAW is the variable", empty.term(empty.draw(seed, 1 + (seed & 3)), 1), variable);
        }
        for (int seed = 0; seed < 100; seed++) {
            TermBank bank = Checks.bankOf("symbol a 0 1;symbol f 2 2;symbol g 1 1;");
            String drawn = told(bank, bank.draw(seed * 77777, 1 + seed % 4));
            StringBuilder text = new StringBuilder();
            drawnText(new int[] {seed * 77777}, 1 + seed % 4, text);
            Checks.due("drawn " + text + ", told " + drawn, text.toString().equals(drawn) ? 1 : 0, 1);
            Checks.due("acts", bank.count(11), 1);
        }
    }

    private static int next(int[] seed, int n) {
        seed[0] = seed[0] * 1103515245 + 12345;
        return (seed[0] >> 16 & 0x7fff) % n;
    }

    private static void drawnText(int[] seed, int depth, StringBuilder text) {
        int eight = next(seed, 8);
        if (eight == 0 || depth == 1) {
            text.append('?').append(next(seed, 3));
            return;
        }
        int symbol = next(seed, 3);
        text.append("afg".charAt(symbol));
        for (int k = 0; k < (symbol == 0 ? 0 : 3 - symbol); k++) {
            text.append('(');
            drawnText(seed, depth - 1, text);
            text.append(')');
        }
    }

    private static String told(TermBank bank, int term) {
        int symbol = bank.term(term, 0);
        if (symbol < 0) {
            return "?" + bank.term(term, 1);
        }
        StringBuilder text = new StringBuilder().append((char) bank.symbol(symbol, 0));
        for (int k = 0; k < bank.symbol(symbol, 1); k++) {
            text.append('(').append(told(bank, bank.argument(term, k))).append(')');
        }
        return text.toString();
    }
}
