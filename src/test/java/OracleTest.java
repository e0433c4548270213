import java.util.HashSet;
import java.util.Random;
import java.util.Set;

/** Random runs of calls, by fixed seeds, on TermBank and on NaiveBank side by side. */
public final class OracleTest {
    private static final String[] NAMES = {"a", "b", "c", "f", "g", "h", "p", "q", "x", "z"};
    private static final int CALLS = 500;
    /** Banks in which much happens: many steps, many terms, much that meets, rings, deep terms. */
    private static final String[] THEMES = {
        "symbol a 0 1;symbol b 0 1;symbol f 3 1;symbol g 1 1;rule b to a;room 0;term f(b,b,b);term f(b,?0,b);",
        "symbol a 3 1;symbol b 3 1;symbol c 3 1;symbol f 3 1;rule f(?0,?1,?2) to c(?2,?0,?1);"
            + "rule c(?0,?1,?2) to b(?2,?1,?0);rule b(?0,?1,?2) to a(?0,?2,?1);term f(?0,?1,?2);room 2;",
        "symbol a 0 1;symbol f 2 1;rule f(f(?0,?1),?2) to f(?0,f(?1,?2));rule f(?0,?0) to ?0;room 1;"
            + "term f(f(f(?0,?1),a),f(?2,a));entry f(?0,?1);entry f(?0,?0);entry f(a,?3);",
        "symbol f 3 1;symbol g 2 2;symbol h 1 3;symbol a 0 1;symbol b 0 2;entry f(?0,?1,?2);entry g(?0,h(?0));",
        "symbol g 1 1;symbol h 1 1;rule h(g(?0)) to g(h(?0));rule g(g(g(?0))) to g(?0);rule h(h(?1)) to g(?1);"
            + "term h(h(g(h(g(h(?0))))));room 3;entry h(?2);entry g(g(?1));",
        "symbol f 2 1;symbol g 1 1;symbol a 0 1;term f(?0,?1);term f(g(g(g(?1))),g(g(g(a))));term f(?1,g(g(?0)));"
            + "term f(g(g(g(?2))),?2);term f(f(?0,?1),f(?1,?2));term f(f(g(?1),g(g(?2))),f(?3,g(g(g(a)))));term f(?0,f(?1,?2));",
        "symbol a 0 9;symbol b 0 1;symbol f 2 3;rule f(a,?0) to f(?0,b);rule f(?0,b) to ?0;rule a to b;term f(a,a);",
    };

    private final Random random;
    private final TermBank bank = new TermBank();
    private final NaiveBank naive = new NaiveBank();
    private final StringBuilder trace = new StringBuilder();
    private boolean same = true;
    private int[] arities = new int[0];

    private OracleTest(long seed) {
        random = new Random(seed);
    }

    public static void main(String[] args) {
        int runs = args.length > 0 ? Integer.parseInt(args[0]) : 150;
        long first = args.length > 1 ? Long.parseLong(args[1]) : 1;
        for (long seed = first; seed < first + runs; seed++) {
            new OracleTest(seed).run(seed);
        }
        Checks.end();
    }

    private void run(long seed) {
        int style = random.nextInt(12);
        for (int k = 0; k < CALLS && same; k++) {
            if (k == 0 && style != 0 || random.nextInt(250) == 0) {
                tell(style % 2 == 0 ? THEMES[random.nextInt(THEMES.length)] : randomText());
            }
            boolean fills = style == 4 && random.nextInt(3) > 0;
            one(fills ? 80 + random.nextInt(6) : random.nextInt(100));
            if (k % 25 == 24) {
                compareAll();
            }
        }
        compareAll();
        if (!same) {
            System.out.println("seed " + seed + ":\n" + trace);
        }
    }

    private void both(String call, Checks.Call one, Checks.Call other) {
        if (!same) {
            return;
        }
        long got = Checks.answer(one);
        long want = Checks.answer(other);
        trace.append(call).append(" = ").append(got).append('\n');
        same = got == want;
        Checks.due(call, got, want);
    }

    // ---- texts

    private String randomText() {
        String text = random.nextInt(8) == 0 ? noise() : text();
        if (random.nextInt(6) == 0) {
            text = spoilt(text);
        }
        return text.length() > 700 ? text.substring(0, 700) : text;
    }

    private void tell(String text) {
        int[] n = Checks.numbers(text);
        trace.append("text ").append(text).append('\n');
        both("count(12)", () -> bank.count(12), () -> naive.count(12));
        if (bank.count(12) > 0) {
            both("bank(0)", () -> bank.bank(0), () -> naive.bank(0));
        }
        for (int k = 0; k + 4 < n.length; k += 5) {
            int at = k;
            both("feed", () -> bank.feed(n[at], n[at + 1], n[at + 2], n[at + 3], n[at + 4]),
                () -> naive.feed(n[at], n[at + 1], n[at + 2], n[at + 3], n[at + 4]));
        }
        int length = random.nextInt(12) == 0 ? random.nextInt(text.length() + 1) : text.length();
        both("bank(" + length + ")", () -> bank.bank(length), () -> naive.bank(length));
        both("fault()", bank::fault, naive::fault);
    }

    private String text() {
        StringBuilder text = new StringBuilder();
        arities = new int[random.nextInt(6) + (random.nextInt(5) == 0 ? 5 : 0)];
        for (int k = 0; k < arities.length; k++) {
            arities[k] = random.nextInt(4);
            text.append("symbol ").append(NAMES[k]).append(blank()).append(arities[k]).append(' ');
            text.append(random.nextInt(3) == 0 ? 1 + random.nextInt(9) : 1).append(';');
        }
        int clauses = random.nextInt(24);
        Set<String> entries = new HashSet<>();
        for (int k = 0; k < clauses; k++) {
            switch (random.nextInt(8)) {
                case 0, 1, 2 -> text.append(rule());
                case 3, 4, 5 -> {
                    String entry = tree(1 + random.nextInt(3));
                    if (entries.add(entry) || random.nextInt(30) == 0) {
                        text.append("entry ").append(entry).append(';');
                    }
                }
                case 6 -> text.append("term").append(blank()).append(tree(1 + random.nextInt(6))).append(" ;");
                default -> text.append(random.nextInt(5) == 0 ? "room " + random.nextInt(10) + ";" : "\n");
            }
        }
        return text.toString();
    }

    private String blank() {
        return random.nextInt(6) == 0 ? " \n " : random.nextInt(3) == 0 ? "\n" : " ";
    }

    /** Mostly one that is a rule: the right side is a part of the left one, or lighter by chance. */
    private String rule() {
        String left = tree(2 + random.nextInt(2));
        String right = tree(1 + random.nextInt(2));
        if (arities.length == 0) {
            return "";
        }
        int symbol = random.nextInt(arities.length);
        String name = NAMES[symbol];
        if (random.nextInt(3) > 0 && arities[symbol] > 0) {
            String[] forms1 = {"N(?0) to ?0;", "N(N(?0)) to N(?0);", "N(N(?1)) to ?1;"};
            String[] forms2 = {"N(N(?0,?1),?2) to N(?0,N(?1,?2));", "N(?0,?0) to ?0;", "N(?1,?2) to ?2;"};
            String[] forms3 = {"N(?0,?1,?0) to ?1;", "N(N(?0,?1,?2),?3,?4) to N(?0,?1,N(?2,?3,?4));", "N(?5,?0,?1) to ?5;"};
            String[] forms = arities[symbol] == 1 ? forms1 : arities[symbol] == 2 ? forms2 : forms3;
            return "rule " + forms[random.nextInt(3)].replace("N", name);
        }
        if (random.nextInt(3) > 0 && arities[symbol] == 0) {
            return random.nextBoolean() ? "" : "rule " + name + " to a;";
        }
        return random.nextInt(6) == 0 ? "rule " + left + " to " + right + ";" : "";
    }

    private String tree(int depth) {
        if (arities.length == 0 || depth <= 1 && random.nextInt(3) > 0 || random.nextInt(8) == 0) {
            return "?" + (random.nextInt(4) == 0 ? random.nextInt(8) : random.nextInt(3));
        }
        int symbol = random.nextInt(arities.length);
        if (depth <= 1 && arities[symbol] > 0) {
            return "?" + random.nextInt(3);
        }
        StringBuilder text = new StringBuilder(NAMES[symbol]);
        for (int k = 0; k < arities[symbol]; k++) {
            text.append(k == 0 ? "(" : ",").append(tree(depth - 1));
        }
        return text.append(arities[symbol] > 0 ? ")" : "").toString();
    }

    private String noise() {
        String[] tokens = {"symbol ", "term ", "rule ", "entry ", "room ", " to ", "a", "f", "(", ")", ",", ";", "?", "0",
            "1", "3", "12", "ab", "\n", "!", "A", " ", "symbol f 1 1;", "symbol a 0 2;", "?0", "f(?0)", "f(f(f(f(f(f(f("};
        StringBuilder text = new StringBuilder();
        int n = random.nextInt(30);
        for (int k = 0; k < n; k++) {
            text.append(tokens[random.nextInt(tokens.length)]);
        }
        return text.toString();
    }

    private String spoilt(String text) {
        if (text.isEmpty()) {
            return "?";
        }
        StringBuilder other = new StringBuilder(text);
        int at = random.nextInt(text.length());
        String letters = "abfg0159?(),; \nA!{/:`@\t";
        char letter = random.nextInt(10) == 0 ? (char) random.nextInt(256) : letters.charAt(random.nextInt(letters.length()));
        switch (random.nextInt(3)) {
            case 0 -> other.setCharAt(at, letter);
            case 1 -> other.deleteCharAt(at);
            default -> other.insert(at, letter);
        }
        return other.toString();
    }

    // ---- calls

    private int term() {
        int there = bank.count(1);
        int chance = random.nextInt(60);
        if (chance == 0) {
            return random.nextInt(6) == 0 ? Integer.MIN_VALUE : -1 - random.nextInt(3);
        }
        if (chance == 1 || there == 0) {
            return random.nextInt(6) == 0 ? Integer.MAX_VALUE : there + random.nextInt(3);
        }
        return chance < 12 ? there - 1 - random.nextInt(Math.min(there, 5)) : random.nextInt(there);
    }

    private int upTo(int n) {
        int chance = random.nextInt(60);
        if (chance == 2) {
            return random.nextBoolean() ? Integer.MIN_VALUE : Integer.MAX_VALUE;
        }
        return chance == 0 ? -1 : chance == 1 ? n + 1 : random.nextInt(n + 1);
    }

    private void one(int chance) {
        int s = term();
        int t = term();
        int u = term();
        if (chance < 8) {
            int v = random.nextInt(3) > 0 ? random.nextInt(3) : upTo(7);
            both("variable(" + v + ")", () -> bank.variable(v), () -> naive.variable(v));
        } else if (chance < 28) {
            int symbol = upTo(Math.max(bank.count(0) - 1, 0));
            int b = random.nextInt(4) == 0 ? s : t;
            int c = random.nextInt(4) == 0 ? s : u;
            both("make(" + symbol + "," + s + "," + b + "," + c + ")", () -> bank.make(symbol, s, b, c), () -> naive.make(symbol, s, b, c));
        } else if (chance < 34) {
            int v = random.nextInt(3) > 0 ? random.nextInt(3) : upTo(7);
            int to = random.nextInt(8) == 0 ? -1 : s;
            both("bind(" + v + "," + to + ")", () -> bank.bind(v, to), () -> naive.bind(v, to));
        } else if (chance < 38) {
            both("apply(" + s + ")", () -> bank.apply(s), () -> naive.apply(s));
        } else if (chance < 42) {
            both("close(" + s + ")", () -> bank.close(s), () -> naive.close(s));
        } else if (chance < 50) {
            both("unify(" + s + "," + t + ")", () -> bank.unify(s, t), () -> naive.unify(s, t));
        } else if (chance < 54) {
            both("match(" + s + "," + t + ")", () -> bank.match(s, t), () -> naive.match(s, t));
        } else if (chance < 58) {
            both("common(" + s + "," + t + ")", () -> bank.common(s, t), () -> naive.common(s, t));
        } else if (chance < 68) {
            both("normal(" + s + ")", () -> bank.normal(s), () -> naive.normal(s));
        } else if (chance < 72) {
            int place = upTo(10);
            both("put(" + s + "," + place + "," + t + ")", () -> bank.put(s, place, t), () -> naive.put(s, place, t));
        } else if (chance < 74) {
            both("rules(" + s + "," + t + ")", () -> bank.rules(s, t), () -> naive.rules(s, t));
        } else if (chance < 77) {
            both("enter(" + s + ")", () -> bank.enter(s), () -> naive.enter(s));
        } else if (chance < 79) {
            both("leave(" + s + ")", () -> bank.leave(s), () -> naive.leave(s));
        } else if (chance < 80) {
            int n = upTo(9);
            both("room(" + n + ")", () -> bank.room(n), () -> naive.room(n));
        } else if (chance < 86) {
            int seed = random.nextInt();
            int depth = random.nextInt(20) == 0 ? 5 * random.nextInt(2) : 1 + random.nextInt(4);
            both("draw(" + seed + "," + depth + ")", () -> bank.draw(seed, depth), () -> naive.draw(seed, depth));
        } else if (chance < 89) {
            undoSome();
        } else if (chance < 92) {
            int seed = random.nextInt();
            int n = upTo(20);
            for (int what = 0; what < 3; what++) {
                int w = random.nextInt(30) == 0 ? 3 : what;
                both("years(" + seed + "," + n + "," + w + ")", () -> bank.years(seed, n, w), () -> naive.years(seed, n, w));
            }
        } else if (chance < 93) {
            keepOrRestore();
        } else if (chance < 94) {
            tower(s);
        } else {
            ask(random.nextInt(10), s, t);
        }
    }

    /** A term in which another one stands as often as can be, and its normal form. */
    private void tower(int from) {
        int symbol = Math.max(bank.count(0) - 1 - random.nextInt(3), 0);
        int[] top = {from};
        for (int k = 0; k < 5 && top[0] >= 0; k++) {
            int arg = top[0];
            both("make(" + symbol + "," + arg + "," + arg + "," + arg + ")",
                () -> top[0] = bank.make(symbol, arg, arg, arg), () -> naive.make(symbol, arg, arg, arg));
            int made = top[0];
            if (random.nextInt(3) == 0) {
                both("normal(" + made + ")", () -> bank.normal(made), () -> naive.normal(made));
            }
        }
    }

    private void undoSome() {
        int times = random.nextInt(20) == 0 ? 45 : 1 + random.nextInt(3);
        for (int k = 0; k < times; k++) {
            both("undo()", bank::undo, naive::undo);
        }
    }

    private void keepOrRestore() {
        if (random.nextBoolean()) {
            bank.image();
            naive.image();
            trace.append("image()\n");
        } else {
            both("restore()", () -> bank.restore() ? 1 : 0, () -> naive.restore() ? 1 : 0);
        }
    }

    private void ask(int which, int s, int t) {
        int what = upTo(4);
        int i = upTo(12);
        switch (which) {
            case 0 -> both("order(" + s + "," + t + ")", () -> bank.order(s, t), () -> naive.order(s, t));
            case 1 -> both("find(" + s + "," + what + ")", () -> bank.find(s, what), () -> naive.find(s, what));
            case 2 -> both("argument(" + s + "," + what + ")", () -> bank.argument(s, what), () -> naive.argument(s, what));
            case 3 -> both("place(" + s + "," + i + ")", () -> bank.place(s, i), () -> naive.place(s, i));
            case 4 -> both("memo(" + i + "," + what + ")", () -> bank.memo(i, what), () -> naive.memo(i, what));
            case 5 -> both("rule(" + i + "," + what + ")", () -> bank.rule(i, what), () -> naive.rule(i, what));
            case 6 -> both("entry(" + i + ")", () -> bank.entry(i), () -> naive.entry(i));
            case 7 -> both("bound(" + i + ")", () -> bank.bound(i), () -> naive.bound(i));
            case 8 -> both("symbol(" + i + "," + what + ")", () -> bank.symbol(i, what), () -> naive.symbol(i, what));
            default -> both("term(" + s + "," + i + ")", () -> bank.term(s, i), () -> naive.term(s, i));
        }
    }

    /** Every answer that changes nothing, of some of the terms. */
    private void compareAll() {
        for (int what = -1; what <= 17; what++) {
            int w = what;
            both("count(" + w + ")", () -> bank.count(w), () -> naive.count(w));
        }
        for (int k = -1; k <= bank.count(0); k++) {
            for (int what = -1; what <= 5; what++) {
                int symbol = k;
                int w = what;
                both("symbol(" + symbol + "," + w + ")", () -> bank.symbol(symbol, w), () -> naive.symbol(symbol, w));
            }
        }
        for (int k = -1; k <= 13; k++) {
            int i = k;
            both("entry(" + i + ")", () -> bank.entry(i), () -> naive.entry(i));
            both("bound(" + i + ")", () -> bank.bound(i), () -> naive.bound(i));
            for (int what = -1; what <= 2; what++) {
                int w = what;
                both("rule(" + i + "," + w + ")", () -> bank.rule(i, w), () -> naive.rule(i, w));
                both("memo(" + i + "," + w + ")", () -> bank.memo(i, w), () -> naive.memo(i, w));
            }
        }
        for (int k = 0; k < 6; k++) {
            compareTerm(term(), term());
        }
        both("argument of all", () -> sum(bank::argument), () -> sum(naive::argument));
    }

    private interface Two {
        int of(int x, int y);
    }

    private int sum(Two call) {
        int sum = 0;
        for (int term = 0; term < bank.count(1); term++) {
            for (int i = 0; i < 3; i++) {
                int at = term;
                int which = i;
                sum = sum * 31 + (int) Checks.answer(() -> call.of(at, which));
            }
        }
        return sum;
    }

    private void compareTerm(int s, int t) {
        for (int what = -1; what <= 10; what++) {
            int w = what;
            both("term(" + s + "," + w + ")", () -> bank.term(s, w), () -> naive.term(s, w));
        }
        for (int what = -1; what <= 4; what++) {
            int w = what;
            both("find(" + s + "," + w + ")", () -> bank.find(s, w), () -> naive.find(s, w));
        }
        for (int place = -1; place < 9; place++) {
            int p = place;
            both("place(" + s + "," + p + ")", () -> bank.place(s, p), () -> naive.place(s, p));
        }
        both("order(" + s + "," + t + ")", () -> bank.order(s, t), () -> naive.order(s, t));
    }
}
