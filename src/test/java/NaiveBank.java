import java.util.ArrayList;
import java.util.Arrays;
import java.util.HashMap;
import java.util.HashSet;
import java.util.LinkedHashMap;
import java.util.List;
import java.util.Map;
import java.util.NoSuchElementException;
import java.util.Set;
import java.util.TreeSet;

/**
 * The document once more, as plainly as can be, as what TermBank is compared with: terms are
 * trees, every act copies the whole state before it changes it, nothing is shared or kept twice.
 */
final class NaiveBank {
    /** A tree; symbol is -1 for a variable. */
    record Tree(int symbol, int variable, List<Tree> args) {
        int size() {
            int n = 1;
            for (Tree a : args) n += a.size();
            return n;
        }

        int depth() {
            int n = 0;
            for (Tree a : args) n = Math.max(n, a.depth());
            return n + 1;
        }

        void parts(List<Tree> into) {
            into.add(this);
            for (Tree a : args) a.parts(into);
        }

        List<Tree> parts() {
            List<Tree> all = new ArrayList<>();
            parts(all);
            return all;
        }

        boolean isVariable() {
            return symbol < 0;
        }

        Tree with(List<Tree> others) {
            return new Tree(symbol, variable, others);
        }
    }

    static Tree variableTree(int v) {
        return new Tree(-1, v, List.of());
    }

    record Symbol(char name, int arity, int weight) { }

    record Rule(Tree left, Tree right) { }

    /** An act that ends otherwise than well. */
    static final class Refusal extends RuntimeException {
        private static final long serialVersionUID = 1L;
        final int answer;
        final int kind;

        Refusal(int answer, int kind) {
            super(null, null, false, false);
            this.answer = answer;
            this.kind = kind;
        }
    }

    static final class Fault extends RuntimeException {
        private static final long serialVersionUID = 1L;
        final int code;
        final int at;

        Fault(int code, int at) {
            super(null, null, false, false);
            this.code = code;
            this.at = at;
        }
    }

    static final class State {
        List<Tree> terms = new ArrayList<>();
        Map<Integer, Tree> bindings = new HashMap<>();
        List<Rule> rules = new ArrayList<>();
        List<Tree> entries = new ArrayList<>();
        int room = 4;
        LinkedHashMap<Tree, Tree> memo = new LinkedHashMap<>();
        int hits;
        int steps;

        State copy() {
            State s = new State();
            s.terms = new ArrayList<>(terms);
            s.bindings = new HashMap<>(bindings);
            s.rules = new ArrayList<>(rules);
            s.entries = new ArrayList<>(entries);
            s.room = room;
            s.memo = new LinkedHashMap<>(memo);
            s.hits = hits;
            s.steps = steps;
            return s;
        }

        int come(Tree t) {
            if (t.depth() > 6) throw new Refusal(-3, 2);
            for (Tree a : t.args()) come(a);
            int at = terms.indexOf(t);
            if (at >= 0) return at;
            if (terms.size() == 400) throw new Refusal(-3, 2);
            terms.add(t);
            return terms.size() - 1;
        }
    }

    private List<Symbol> symbols = new ArrayList<>();
    private State now = new State();
    private List<State> acts = new ArrayList<>();
    private int[] status = new int[4];
    private State imageState;
    private List<State> imageActs;
    private int[] imageStatus;
    private List<Integer> tape = new ArrayList<>();
    private int faultPlace = -1;
    private int seed;
    private int budget;

    // ---- the text

    int feed(int a, int b, int c, int d, int e) {
        if (tape.size() + 20 > 700) return -1;
        for (int x : new int[] {a, b, c, d, e}) {
            for (int k = 3; k >= 0; k--) tape.add((x >> 8 * k) & 255);
        }
        return tape.size();
    }

    int bank(int n) {
        if (n < 0 || n > tape.size()) throw new IllegalArgumentException();
        StringBuilder text = new StringBuilder();
        for (int k = 0; k < n; k++) text.append((char) (int) tape.get(k));
        tape.clear();
        List<Symbol> oldSymbols = symbols;
        State old = now;
        symbols = new ArrayList<>();
        now = new State();
        try {
            new Parser(text.toString()).clauses();
        } catch (Fault f) {
            symbols = oldSymbols;
            now = old;
            status[0]++;
            faultPlace = f.at;
            return f.code;
        }
        acts.clear();
        imageState = null;
        faultPlace = -1;
        return 0;
    }

    int fault() {
        return faultPlace;
    }

    private final class Parser {
        final List<String> tokens = new ArrayList<>();
        final List<Integer> places = new ArrayList<>();
        int at = 0;
        boolean roomTold = false;

        Parser(String text) {
            int i = 0;
            while (i < text.length()) {
                char c = text.charAt(i);
                int j = i + 1;
                if (c == 32 || c == 10) {
                    i++;
                    continue;
                }
                while (j < text.length() && (letter(c) && letter(text.charAt(j)) || digit(c) && digit(text.charAt(j)))) j++;
                tokens.add(text.substring(i, j));
                places.add(i);
                i = j;
            }
            tokens.add("");
            places.add(text.length());
        }

        boolean letter(char c) {
            return "abcdefghijklmnopqrstuvwxyz".indexOf(c) >= 0;
        }

        boolean digit(char c) {
            return "0123456789".indexOf(c) >= 0;
        }

        String look() {
            return tokens.get(at);
        }

        void check(boolean fine, int code) {
            if (!fine) throw new Fault(code, places.get(at));
        }

        void expect(String token) {
            check(look().equals(token), 1);
            at++;
        }

        int number(int least, int most) {
            check(!look().isEmpty() && digit(look().charAt(0)), 1);
            check(look().length() == 1, 2);
            int n = look().charAt(0) - '0';
            check(n >= least && n <= most, 2);
            at++;
            return n;
        }

        int symbolNamed(String name) {
            for (int k = 0; k < symbols.size(); k++) {
                if (name.charAt(0) == symbols.get(k).name()) return k;
            }
            return -1;
        }

        Tree tree(int depth) {
            boolean isName = !look().isEmpty() && letter(look().charAt(0));
            check(isName || look().equals("?"), 1);
            check(depth <= 6, 2);
            if (!isName) {
                at++;
                return variableTree(number(0, 7));
            }
            check(look().length() == 1, 2);
            int symbol = symbolNamed(look());
            check(symbol >= 0, 3);
            at++;
            List<Tree> args = new ArrayList<>();
            for (int k = 0; k < symbols.get(symbol).arity(); k++) {
                expect(k == 0 ? "(" : ",");
                args.add(tree(depth + 1));
            }
            if (!args.isEmpty()) expect(")");
            return new Tree(symbol, -1, args);
        }

        void clauses() {
            while (at < tokens.size() - 1) {
                switch (look()) {
                    case "symbol" -> symbol();
                    case "term" -> {
                        at++;
                        Tree t = tree(1);
                        now.come(t);
                        expect(";");
                    }
                    case "rule" -> rule();
                    case "entry" -> entry();
                    case "room" -> {
                        check(!roomTold, 4);
                        roomTold = true;
                        at++;
                        now.room = number(0, 9);
                        expect(";");
                    }
                    default -> check(false, 1);
                }
            }
        }

        void symbol() {
            check(symbols.size() < 10, 2);
            at++;
            check(!look().isEmpty() && letter(look().charAt(0)), 1);
            check(look().length() == 1, 2);
            check(symbolNamed(look()) < 0, 4);
            char name = look().charAt(0);
            at++;
            int arity = number(0, 3);
            int weight = number(1, 9);
            expect(";");
            symbols.add(new Symbol(name, arity, weight));
        }

        void rule() {
            check(now.rules.size() < 8, 2);
            at++;
            Tree left = tree(1);
            expect("to");
            Tree right = tree(1);
            check(look().equals(";"), 1);
            check(isRule(left, right, weights()), 5);
            at++;
            now.come(left);
            now.come(right);
            now.rules.add(new Rule(left, right));
        }

        void entry() {
            check(now.entries.size() < 12, 2);
            at++;
            Tree t = tree(1);
            check(look().equals(";"), 1);
            check(!now.entries.contains(t), 5);
            at++;
            now.come(t);
            now.entries.add(t);
        }
    }

    // ---- what terms are and how they compare

    private int[] weights() {
        int[] w = new int[symbols.size()];
        for (int k = 0; k < w.length; k++) w[k] = symbols.get(k).weight();
        return w;
    }

    private static int weight(Tree t, int[] w) {
        int sum = 0;
        for (Tree p : t.parts()) sum += p.isVariable() ? 1 : w[p.symbol()];
        return sum;
    }

    private static int[] variableCounts(Tree t) {
        int[] n = new int[8];
        for (Tree p : t.parts()) if (p.isVariable()) n[p.variable()]++;
        return n;
    }

    static boolean greater(Tree s, Tree t, int[] w) {
        if (s.equals(t)) return false;
        int[] of = variableCounts(s);
        int[] other = variableCounts(t);
        for (int v = 0; v < 8; v++) if (of[v] < other[v]) return false;
        int ws = weight(s, w);
        int wt = weight(t, w);
        if (ws != wt) return ws > wt;
        if (t.isVariable()) return true;
        if (s.isVariable()) return false;
        if (s.symbol() != t.symbol()) return s.symbol() > t.symbol();
        int k = 0;
        while (s.args().get(k).equals(t.args().get(k))) k++;
        return greater(s.args().get(k), t.args().get(k), w);
    }

    private static boolean isRule(Tree left, Tree right, int[] w) {
        return !left.isVariable() && left.size() <= 12 && right.size() <= 12 && greater(left, right, w);
    }

    private static String shape(Tree t) {
        if (t.isVariable()) return "?";
        StringBuilder b = new StringBuilder().append(t.symbol()).append('(');
        for (Tree a : t.args()) b.append(shape(a)).append(',');
        return b.append(')').toString();
    }

    static Map<Integer, Tree> match(Tree pattern, Tree t) {
        Map<Integer, Tree> got = new HashMap<>();
        return matchInto(pattern, t, got) ? got : null;
    }

    private static boolean matchInto(Tree pattern, Tree t, Map<Integer, Tree> got) {
        if (pattern.isVariable()) {
            Tree before = got.putIfAbsent(pattern.variable(), t);
            return before == null || before.equals(t);
        }
        if (pattern.symbol() != t.symbol()) return false;
        for (int k = 0; k < pattern.args().size(); k++) {
            if (!matchInto(pattern.args().get(k), t.args().get(k), got)) return false;
        }
        return true;
    }

    static Tree apply(Tree t, Map<Integer, Tree> bindings) {
        if (t.isVariable()) return bindings.getOrDefault(t.variable(), t);
        List<Tree> args = new ArrayList<>();
        for (Tree a : t.args()) args.add(apply(a, bindings));
        return t.with(args);
    }

    private static Tree shift(Tree t) {
        if (t.isVariable()) return variableTree(t.variable() + 8);
        List<Tree> args = new ArrayList<>();
        for (Tree a : t.args()) args.add(shift(a));
        return t.with(args);
    }

    private static boolean canApart(Tree s, Tree t) {
        return new Solving(s, shift(t)).way() == 1;
    }

    /** Classes of subterms as sets that are merged till nothing changes any more. */
    private static final class Solving {
        final List<Set<Tree>> classes = new ArrayList<>();
        final Tree root;
        boolean clash = false;

        Solving(Tree s, Tree t) {
            root = s;
            Set<Tree> all = new HashSet<>(s.parts());
            all.addAll(t.parts());
            for (Tree p : all) classes.add(new HashSet<>(Set.of(p)));
            join(s, t);
            boolean changed = true;
            while (changed && !clash) changed = sweep();
        }

        Set<Tree> classOf(Tree t) {
            for (Set<Tree> c : classes) if (c.contains(t)) return c;
            throw new AssertionError();
        }

        boolean join(Tree a, Tree b) {
            Set<Tree> x = classOf(a);
            Set<Tree> y = classOf(b);
            if (x == y) return false;
            x.addAll(y);
            classes.removeIf(c -> c == y);
            return true;
        }

        boolean sweep() {
            for (Set<Tree> c : classes) {
                Tree first = null;
                for (Tree p : c) {
                    if (p.isVariable()) continue;
                    if (first == null) first = p;
                    if (first.symbol() != p.symbol()) {
                        clash = true;
                        return true;
                    }
                    for (int k = 0; k < p.args().size(); k++) {
                        if (join(first.args().get(k), p.args().get(k))) return true;
                    }
                }
            }
            return false;
        }

        Tree solid(Set<Tree> c) {
            for (Tree p : c) if (!p.isVariable()) return p;
            return null;
        }

        boolean ring(Set<Tree> c, List<Set<Tree>> open) {
            for (Set<Tree> o : open) if (o == c) return true;
            Tree p = solid(c);
            if (p == null) return false;
            open.add(c);
            for (Tree a : p.args()) if (ring(classOf(a), open)) return true;
            open.remove(open.size() - 1);
            return false;
        }

        int way() {
            if (clash) return 0;
            return ring(classOf(root), new ArrayList<>()) ? 2 : 1;
        }

        int leastVariable(Set<Tree> c) {
            TreeSet<Integer> v = new TreeSet<>();
            for (Tree p : c) if (p.isVariable()) v.add(p.variable());
            return v.first();
        }

        Tree resolved(Tree t, int level) {
            refuseUnless(level <= 6, -3, 2);
            Set<Tree> c = classOf(t);
            Tree p = solid(c);
            if (p == null) return variableTree(leastVariable(c));
            List<Tree> args = new ArrayList<>();
            for (Tree a : p.args()) args.add(resolved(a, level + 1));
            return p.with(args);
        }
    }

    // ---- asking

    private Tree tree(int term) {
        if (term < 0 || term >= now.terms.size()) throw new NoSuchElementException();
        return now.terms.get(term);
    }

    private static int need(boolean fine) {
        if (!fine) throw new NoSuchElementException();
        return 0;
    }

    int count(int what) {
        Set<String> shapes = new HashSet<>();
        for (Tree t : now.terms) shapes.add(shape(t));
        return switch (what) {
            case 0 -> symbols.size();
            case 1 -> now.terms.size();
            case 2 -> now.rules.size();
            case 3 -> now.entries.size();
            case 4 -> now.room;
            case 5 -> now.memo.size();
            case 6 -> now.hits;
            case 7 -> now.steps;
            case 8 -> shapes.size();
            case 9 -> meetings().size();
            case 10 -> meetings().isEmpty() ? -1 : meetings().get(0);
            case 11 -> acts.size();
            case 12 -> tape.size();
            case 13, 14, 15, 16 -> status[what - 13];
            default -> throw new NoSuchElementException();
        };
    }

    private List<Integer> meetings() {
        List<Integer> met = new ArrayList<>();
        for (int i = 0; i < now.rules.size(); i++) {
            List<Tree> places = now.rules.get(i).left().parts();
            for (int p = 0; p < places.size(); p++) {
                for (int j = 0; j < now.rules.size(); j++) {
                    if (places.get(p).isVariable() || i == j && p == 0) continue;
                    if (canApart(places.get(p), now.rules.get(j).left())) met.add(1000 * i + 10 * p + j);
                }
            }
        }
        return met;
    }

    int symbol(int symbol, int what) {
        need(symbol >= 0 && symbol < symbols.size() && what >= 0 && what <= 4);
        Symbol s = symbols.get(symbol);
        if (what < 3) return what == 0 ? s.name() : what == 1 ? s.arity() : s.weight();
        List<Integer> fits = new ArrayList<>();
        for (int w = 1; w <= 9; w++) {
            int[] tried = weights();
            tried[symbol] = w;
            boolean all = true;
            for (Rule r : now.rules) all &= isRule(r.left(), r.right(), tried);
            if (all) fits.add(w);
        }
        return what == 3 ? fits.size() : fits.isEmpty() ? -1 : fits.get(0);
    }

    int term(int term, int what) {
        Tree t = tree(term);
        switch (what) {
            case 0: return t.symbol();
            case 1: return t.isVariable() ? t.variable() : -1;
            case 2: return t.size();
            case 3: return new HashSet<>(t.parts()).size();
            case 4: return t.depth();
            case 5: return weight(t, weights());
            case 6: {
                int bits = 0;
                for (int v = 0; v < 8; v++) if (variableCounts(t)[v] > 0) bits |= 1 << v;
                return bits;
            }
            case 7: return (int) now.terms.stream().filter(u -> u.args().contains(t)).count();
            case 8: return now.entries.indexOf(t);
            case 9: {
                for (Tree p : t.parts()) for (Rule r : now.rules) if (match(r.left(), p) != null) return 0;
                return 1;
            }
            default: throw new NoSuchElementException();
        }
    }

    int argument(int term, int i) {
        Tree t = tree(term);
        need(i >= 0 && i < t.args().size());
        return now.terms.indexOf(t.args().get(i));
    }

    int place(int term, int place) {
        List<Tree> parts = tree(term).parts();
        need(place >= 0 && place < parts.size());
        return now.terms.indexOf(parts.get(place));
    }

    int order(int s, int t) {
        Tree a = tree(s);
        Tree b = tree(t);
        return a.equals(b) ? 0 : greater(a, b, weights()) ? 1 : greater(b, a, weights()) ? 2 : 3;
    }

    int find(int term, int what) {
        Tree t = tree(term);
        need(what >= 0 && what <= 3);
        int bits = 0;
        for (int k = 0; k < now.entries.size(); k++) {
            Tree e = now.entries.get(k);
            boolean found = switch (what) {
                case 0 -> match(e, t) != null;
                case 1 -> match(t, e) != null;
                case 2 -> canApart(t, e);
                default -> shape(t).equals(shape(e));
            };
            if (found) bits |= 1 << k;
        }
        return bits;
    }

    int rule(int rule, int what) {
        need(rule >= 0 && rule < now.rules.size() && (what == 0 || what == 1));
        Rule r = now.rules.get(rule);
        return now.terms.indexOf(what == 0 ? r.left() : r.right());
    }

    int entry(int i) {
        need(i >= 0 && i < now.entries.size());
        return now.terms.indexOf(now.entries.get(i));
    }

    int memo(int i, int what) {
        need(i >= 0 && i < now.memo.size() && (what == 0 || what == 1));
        List<Map.Entry<Tree, Tree>> all = new ArrayList<>(now.memo.entrySet());
        return now.terms.indexOf(what == 0 ? all.get(i).getKey() : all.get(i).getValue());
    }

    int bound(int variable) {
        need(variable >= 0 && variable < 8);
        Tree t = now.bindings.get(variable);
        return t == null ? -1 : now.terms.indexOf(t);
    }

    // ---- acts

    private interface Deed {
        int run();
    }

    private int act(Deed deed) {
        State before = now.copy();
        try {
            int answer = deed.run();
            acts.add(before);
            if (acts.size() > 40) acts.remove(0);
            return answer;
        } catch (Refusal r) {
            now = before;
            status[r.kind]++;
            return r.answer;
        }
    }

    private Tree asked(int term) {
        if (term < 0 || term >= now.terms.size()) throw new Refusal(-1, 1);
        return now.terms.get(term);
    }

    private static void refuseUnless(boolean fine, int answer, int kind) {
        if (!fine) throw new Refusal(answer, kind);
    }

    int variable(int variable) {
        return act(() -> {
            refuseUnless(variable >= 0 && variable < 8, -1, 1);
            return now.come(variableTree(variable));
        });
    }

    int make(int symbol, int a, int b, int c) {
        return act(() -> {
            refuseUnless(symbol >= 0 && symbol < symbols.size(), -1, 1);
            List<Tree> args = new ArrayList<>();
            for (int k = 0; k < symbols.get(symbol).arity(); k++) args.add(asked(k == 0 ? a : k == 1 ? b : c));
            return now.come(new Tree(symbol, -1, args));
        });
    }

    int bind(int variable, int term) {
        return act(() -> {
            refuseUnless(variable >= 0 && variable < 8 && term >= -1 && term < now.terms.size(), -2, 1);
            int before = bound(variable);
            refuseUnless(before != term, -2, 1);
            if (term == -1) now.bindings.remove(variable);
            else now.bindings.put(variable, now.terms.get(term));
            return before;
        });
    }

    int apply(int term) {
        return act(() -> now.come(apply(asked(term), now.bindings)));
    }

    int close(int term) {
        return act(() -> {
            Tree t = asked(term);
            refuseUnless(!leadsToItself(t, Set.of()), -2, 3);
            return now.come(closed(t, 1));
        });
    }

    private static Set<Integer> variablesOf(Tree t) {
        Set<Integer> all = new TreeSet<>();
        for (Tree p : t.parts()) if (p.isVariable()) all.add(p.variable());
        return all;
    }

    private boolean leadsToItself(Tree t, Set<Integer> open) {
        for (int v : variablesOf(t)) {
            if (open.contains(v)) return true;
            Set<Integer> more = new HashSet<>(open);
            more.add(v);
            if (now.bindings.containsKey(v) && leadsToItself(now.bindings.get(v), more)) return true;
        }
        return false;
    }

    private Tree closed(Tree t, int level) {
        refuseUnless(level <= 6, -3, 2);
        if (t.isVariable()) {
            return now.bindings.containsKey(t.variable()) ? closed(now.bindings.get(t.variable()), level) : t;
        }
        List<Tree> args = new ArrayList<>();
        for (Tree a : t.args()) args.add(closed(a, level + 1));
        return t.with(args);
    }

    int unify(int s, int t) {
        return act(() -> {
            Tree a = asked(s);
            Tree b = asked(t);
            Solving solving = new Solving(a, b);
            refuseUnless(solving.way() == 1, solving.way(), 3);
            now.bindings.clear();
            Set<Integer> variables = variablesOf(a);
            variables.addAll(variablesOf(b));
            for (int v : variables) {
                Tree r = solving.resolved(variableTree(v), 1);
                if (r.equals(variableTree(v))) continue;
                now.come(r);
                now.bindings.put(v, r);
            }
            return 1;
        });
    }

    int match(int s, int t) {
        return act(() -> {
            Map<Integer, Tree> got = match(asked(s), asked(t));
            refuseUnless(got != null, 0, 3);
            now.bindings = got;
            return 1;
        });
    }

    int common(int s, int t) {
        return act(() -> {
            List<List<Tree>> couples = new ArrayList<>();
            Tree made = common(asked(s), asked(t), couples);
            refuseUnless(couples.size() <= 8, -2, 3);
            return now.come(made);
        });
    }

    private static Tree common(Tree s, Tree t, List<List<Tree>> couples) {
        if (!s.isVariable() && s.symbol() == t.symbol()) {
            List<Tree> args = new ArrayList<>();
            for (int k = 0; k < s.args().size(); k++) args.add(common(s.args().get(k), t.args().get(k), couples));
            return s.with(args);
        }
        List<Tree> couple = List.of(s, t);
        if (!couples.contains(couple)) couples.add(couple);
        return variableTree(couples.indexOf(couple));
    }

    int normal(int term) {
        return act(() -> {
            Tree t = asked(term);
            budget = 100;
            return now.come(normalForm(t));
        });
    }

    private Tree normalForm(Tree t) {
        if (t.isVariable()) return t;
        if (now.memo.containsKey(t)) {
            Tree known = now.memo.remove(t);
            now.memo.put(t, known);
            now.hits++;
            return known;
        }
        List<Tree> args = new ArrayList<>();
        for (Tree a : t.args()) args.add(normalForm(a));
        Tree made = t.with(args);
        now.come(made);
        Tree result = made;
        for (Rule r : now.rules) {
            Map<Integer, Tree> got = match(r.left(), made);
            if (got == null) continue;
            refuseUnless(budget-- > 0, -2, 2);
            now.steps++;
            Tree next = apply(r.right(), got);
            now.come(next);
            result = normalForm(next);
            break;
        }
        now.memo.put(t, result);
        if (now.memo.size() > now.room) now.memo.remove(now.memo.keySet().iterator().next());
        return result;
    }

    int put(int term, int place, int other) {
        return act(() -> {
            Tree t = asked(term);
            Tree o = asked(other);
            refuseUnless(place >= 0 && place < t.size(), -1, 1);
            return now.come(replace(t, place, o));
        });
    }

    private static Tree replace(Tree t, int place, Tree other) {
        if (place == 0) return other;
        List<Tree> args = new ArrayList<>();
        int left = place - 1;
        for (Tree a : t.args()) {
            args.add(left >= 0 && left < a.size() ? replace(a, left, other) : a);
            left -= a.size();
        }
        return t.with(args);
    }

    int rules(int left, int right) {
        return act(() -> {
            Tree l = asked(left);
            Tree r = asked(right);
            refuseUnless(now.rules.size() < 8 && isRule(l, r, weights()), -1, 1);
            now.rules.add(new Rule(l, r));
            now.memo.clear();
            return now.rules.size();
        });
    }

    int enter(int term) {
        return act(() -> {
            Tree t = asked(term);
            refuseUnless(now.entries.size() < 12 && !now.entries.contains(t), -1, 1);
            now.entries.add(t);
            return now.entries.size();
        });
    }

    int leave(int term) {
        return act(() -> {
            refuseUnless(now.entries.remove(asked(term)), -1, 1);
            return now.entries.size();
        });
    }

    int room(int n) {
        return act(() -> {
            refuseUnless(n >= 0 && n <= 9, -1, 1);
            int before = now.room;
            now.room = n;
            now.memo.clear();
            return before;
        });
    }

    private int drawOf(int n) {
        seed = seed * 1103515245 + 12345;
        return ((seed >> 16) & 0x7fff) % n;
    }

    private Tree drawn(int depth) {
        int eight = drawOf(8);
        if (eight == 0 || depth == 1 || symbols.isEmpty()) return variableTree(drawOf(3));
        int symbol = drawOf(symbols.size());
        List<Tree> args = new ArrayList<>();
        for (int k = 0; k < symbols.get(symbol).arity(); k++) args.add(drawn(depth - 1));
        return new Tree(symbol, -1, args);
    }

    int draw(int from, int depth) {
        return act(() -> {
            refuseUnless(depth >= 1 && depth <= 4, -1, 1);
            seed = from;
            return now.come(drawn(depth));
        });
    }

    int undo() {
        if (acts.isEmpty()) return -1;
        now = acts.remove(acts.size() - 1);
        return acts.size();
    }

    int years(int from, int n, int what) {
        need(what >= 0 && what <= 2);
        if (n < 0 || n > 20) throw new IllegalArgumentException();
        State before = now;
        now = now.copy();
        try {
            seed = from;
            budget = 100;
            int lost = 0;
            for (int k = 0; k < n; k++) {
                Tree t = drawn(3);
                now.come(t);
                lost += weight(t, weights()) - weight(normalForm(t), weights());
            }
            return what == 0 ? lost : what == 1 ? now.hits - before.hits : now.steps - before.steps;
        } catch (Refusal r) {
            return -1;
        } finally {
            now = before;
        }
    }

    void image() {
        imageState = now.copy();
        imageActs = new ArrayList<>();
        for (State s : acts) imageActs.add(s.copy());
        imageStatus = Arrays.copyOf(status, 4);
    }

    boolean restore() {
        if (imageState == null) return false;
        now = imageState.copy();
        acts = new ArrayList<>();
        for (State s : imageActs) acts.add(s.copy());
        status = Arrays.copyOf(imageStatus, 4);
        return true;
    }
}
