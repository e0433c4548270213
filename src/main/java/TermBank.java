import java.util.Arrays;
import java.util.NoSuchElementException;

/** A bank of terms, each there but once. The document ../shared/DOC.md says what each call promises. */
public final class TermBank {
    public static final int NONE = -1;

    private static final int TOO_MUCH = -2;
    private static final int FULL = -3;

    private static final int MAX_SYMBOLS = 10;
    private static final int MAX_ARITY = 3;
    private static final int MAX_WEIGHT = 9;
    private static final int VARIABLES = 8;
    private static final int MAX_TERMS = 400;
    private static final int MAX_DEPTH = 6;
    private static final int MAX_RULES = 8;
    private static final int MAX_RULE_SIZE = 12;
    private static final int MAX_ENTRIES = 12;
    private static final int MAX_ROOM = 9;
    private static final int USUAL_ROOM = 4;
    private static final int MAX_STEPS = 100;
    private static final int MAX_ACTS = 40;
    private static final int MAX_TAPE = 700;
    private static final int MAX_YEARS = 20;
    private static final int YEAR_DEPTH = 3;
    private static final int MAX_DRAWN_DEPTH = 4;

    private static final int CANNOT_BE = 1;
    private static final int TOO_GREAT = 2;
    private static final int UNLIKE = 3;

    private static final int CLASH = 0;
    private static final int ALIKE = 1;
    private static final int RING = 2;

    private final Symbols symbols;
    private final Core core;
    private final Core kept;
    private final Symbols spareSymbols;
    private final Terms spareTerms;
    private final Ledger spareLedger;
    private final Matcher matcher;
    private final Maker maker;
    private final Unifier unifier;
    private final Rulebook rulebook;
    private final Rewriter rewriter;
    private final Reader reader;
    private final int[] tape;
    private int taped;
    private int faultPlace;
    private boolean hasImage;

    public TermBank() {
        symbols = new Symbols();
        core = new Core(new Terms(symbols), new Ledger());
        kept = new Core(new Terms(symbols), new Ledger());
        spareSymbols = new Symbols();
        spareTerms = new Terms(symbols);
        spareLedger = new Ledger();
        matcher = new Matcher(core.terms);
        maker = new Maker(core.terms);
        unifier = new Unifier(core.terms);
        rulebook = new Rulebook(core, matcher, unifier, new Ordering(core.terms));
        rewriter = new Rewriter(core, matcher, maker);
        tape = new int[MAX_TAPE];
        reader = new Reader(tape, core, rulebook);
        taped = 0;
        faultPlace = NONE;
        hasImage = false;
    }

    public int feed(int a, int b, int c, int d, int e) {
        if (taped + 20 > MAX_TAPE) {
            return NONE;
        }
        tapeNumber(a);
        tapeNumber(b);
        tapeNumber(c);
        tapeNumber(d);
        tapeNumber(e);
        return taped;
    }

    private void tapeNumber(int number) {
        for (int shift = 24; shift >= 0 && taped < MAX_TAPE; shift -= 8) {
            tape[taped] = number >>> shift & 255;
            taped++;
        }
    }

    public int bank(int n) throws IllegalArgumentException {
        if (n < 0 || n > taped) {
            throw new IllegalArgumentException("the tape has not so many bytes");
        }
        taped = 0;
        setAside();
        startAnew();
        int fault = reader.readBank(n);
        if (fault != 0) {
            takeBack();
            core.status[0]++;
            faultPlace = reader.faultPlace();
            return fault;
        }
        core.forgetActs();
        hasImage = false;
        faultPlace = NONE;
        return 0;
    }

    private void setAside() {
        spareSymbols.takeFrom(symbols);
        spareTerms.takeFrom(core.terms);
        spareLedger.takeFrom(core.ledger);
    }

    private void startAnew() {
        symbols.empty();
        core.terms.empty();
        core.ledger.empty();
    }

    private void takeBack() {
        symbols.takeFrom(spareSymbols);
        core.terms.takeFrom(spareTerms);
        core.ledger.takeFrom(spareLedger);
    }

    public int fault() {
        return faultPlace;
    }

    public int count(int what) throws NoSuchElementException {
        int[] cells = core.ledger.cells;
        switch (what) {
            case 0: return symbols.told;
            case 1: return core.terms.there;
            case 2: return cells[Ledger.RULES];
            case 3: return cells[Ledger.ENTRIES];
            case 4: return cells[Ledger.ROOM];
            case 5: return cells[Ledger.MEMOS];
            case 6: return cells[Ledger.HITS];
            case 7: return cells[Ledger.STEPS];
            case 8: return core.terms.unlikeShapes();
            case 9: return rulebook.meetings();
            case 10: return rulebook.firstMeeting();
            case 11: return core.acts;
            case 12: return taped;
            case 13:
            case 14:
            case 15:
            case 16: return core.status[what - 13];
            default: throw new NoSuchElementException("no such count");
        }
    }

    public int symbol(int symbol, int what) throws NoSuchElementException {
        if (!symbols.has(symbol)) {
            throw new NoSuchElementException("no such symbol");
        }
        switch (what) {
            case 0: return symbols.names[symbol];
            case 1: return symbols.arities[symbol];
            case 2: return symbols.weights[symbol];
            case 3: return rulebook.fits(symbol);
            case 4: return rulebook.leastFit(symbol);
            default: throw new NoSuchElementException("no such question of a symbol");
        }
    }

    public int term(int term, int what) throws NoSuchElementException {
        needTerm(term);
        Terms terms = core.terms;
        switch (what) {
            case 0: return terms.isVariable(term) ? NONE : terms.heads[term];
            case 1: return terms.isVariable(term) ? ~terms.heads[term] : NONE;
            case 2: return terms.sizes[term];
            case 3: return terms.shared(term);
            case 4: return terms.depths[term];
            case 5: return terms.weights[term];
            case 6: return terms.variables[term];
            case 7: return terms.users(term);
            case 8: return core.ledger.entryOf(term);
            case 9: return rulebook.isReduced(term) ? 1 : 0;
            default: throw new NoSuchElementException("no such question of a term");
        }
    }

    public int argument(int term, int i) throws NoSuchElementException {
        needTerm(term);
        if (i < 0 || i >= core.terms.arities[term]) {
            throw new NoSuchElementException("no such argument");
        }
        return core.terms.argumentOf(term, i);
    }

    public int place(int term, int place) throws NoSuchElementException {
        needTerm(term);
        if (!core.terms.hasPlace(term, place)) {
            throw new NoSuchElementException("no such place");
        }
        return core.terms.inPlace(term, place);
    }

    public int order(int s, int t) throws NoSuchElementException {
        needTerm(s);
        needTerm(t);
        return rulebook.compared(s, t);
    }

    public int find(int term, int what) throws NoSuchElementException {
        needTerm(term);
        if (what < 0 || what > 3) {
            throw new NoSuchElementException("no such question of the index");
        }
        return rulebook.found(term, what);
    }

    public int rule(int rule, int what) throws NoSuchElementException {
        int[] cells = core.ledger.cells;
        if (rule < 0 || rule >= cells[Ledger.RULES] || what < 0 || what > 1) {
            throw new NoSuchElementException("no such rule or side");
        }
        return what == 0 ? cells[Ledger.LEFTS + rule] : cells[Ledger.RIGHTS + rule];
    }

    public int entry(int i) throws NoSuchElementException {
        int[] cells = core.ledger.cells;
        if (i < 0 || i >= cells[Ledger.ENTRIES]) {
            throw new NoSuchElementException("no such entry");
        }
        return cells[Ledger.ENTRY + i];
    }

    public int memo(int i, int what) throws NoSuchElementException {
        int[] cells = core.ledger.cells;
        if (i < 0 || i >= cells[Ledger.MEMOS] || what < 0 || what > 1) {
            throw new NoSuchElementException("no such memo or side");
        }
        return what == 0 ? cells[Ledger.ASKED + i] : cells[Ledger.ANSWERS + i];
    }

    public int bound(int variable) throws NoSuchElementException {
        if (!isVariableNumber(variable)) {
            throw new NoSuchElementException("no such variable");
        }
        return core.ledger.cells[Ledger.BOUND + variable];
    }

    public int variable(int variable) {
        if (!isVariableNumber(variable)) {
            return refused(CANNOT_BE, NONE);
        }
        core.begin();
        return settled(core.terms.variableTerm(variable));
    }

    public int make(int symbol, int a, int b, int c) {
        if (!symbols.has(symbol) || !haveArguments(symbols.arities[symbol], a, b, c)) {
            return refused(CANNOT_BE, NONE);
        }
        core.begin();
        return settled(core.terms.made(symbol, a, b, c));
    }

    private boolean haveArguments(int arity, int a, int b, int c) {
        Terms terms = core.terms;
        return (arity < 1 || terms.has(a)) && (arity < 2 || terms.has(b)) && (arity < 3 || terms.has(c));
    }

    public int bind(int variable, int term) {
        if (!isVariableNumber(variable) || term != NONE && !core.terms.has(term)) {
            return refused(CANNOT_BE, -2);
        }
        int before = core.ledger.cells[Ledger.BOUND + variable];
        if (before == term) {
            return refused(CANNOT_BE, -2);
        }
        core.begin();
        core.ledger.cells[Ledger.BOUND + variable] = term;
        core.keep();
        return before;
    }

    public int apply(int term) {
        if (!core.terms.has(term)) {
            return refused(CANNOT_BE, NONE);
        }
        core.begin();
        return settled(maker.applied(term, core.ledger.cells, Ledger.BOUND));
    }

    public int close(int term) {
        if (!core.terms.has(term)) {
            return refused(CANNOT_BE, NONE);
        }
        if (maker.hasRing(term, core.ledger.cells, Ledger.BOUND)) {
            return refused(UNLIKE, -2);
        }
        core.begin();
        return settled(maker.closed(term, core.ledger.cells, Ledger.BOUND));
    }

    public int unify(int s, int t) {
        if (!core.terms.has(s) || !core.terms.has(t)) {
            return refused(CANNOT_BE, NONE);
        }
        int way = unifier.wayOf(s, t, Unifier.TOGETHER);
        if (way != ALIKE) {
            return refused(UNLIKE, way);
        }
        core.begin();
        int bits = core.terms.variables[s] | core.terms.variables[t];
        return settled(unifier.bindAll(bits, core.ledger.cells, Ledger.BOUND));
    }

    public int match(int s, int t) {
        if (!core.terms.has(s) || !core.terms.has(t)) {
            return refused(CANNOT_BE, NONE);
        }
        if (!matcher.matches(s, t)) {
            return refused(UNLIKE, 0);
        }
        core.begin();
        System.arraycopy(matcher.got, 0, core.ledger.cells, Ledger.BOUND, VARIABLES);
        core.keep();
        return 1;
    }

    public int common(int s, int t) {
        if (!core.terms.has(s) || !core.terms.has(t)) {
            return refused(CANNOT_BE, NONE);
        }
        if (!maker.haveCommon(s, t)) {
            return refused(UNLIKE, -2);
        }
        core.begin();
        return settled(maker.commonOf(s, t));
    }

    public int normal(int term) {
        if (!core.terms.has(term)) {
            return refused(CANNOT_BE, NONE);
        }
        core.begin();
        rewriter.allowSteps();
        return settled(rewriter.normalOf(term));
    }

    public int put(int term, int place, int other) {
        Terms terms = core.terms;
        if (!terms.has(term) || !terms.has(other) || !terms.hasPlace(term, place)) {
            return refused(CANNOT_BE, NONE);
        }
        core.begin();
        return settled(maker.replaced(term, place, other));
    }

    public int rules(int left, int right) {
        Ledger ledger = core.ledger;
        if (ledger.cells[Ledger.RULES] >= MAX_RULES || !rulebook.isRule(left, right)) {
            return refused(CANNOT_BE, NONE);
        }
        core.begin();
        ledger.addRule(left, right);
        core.keep();
        return ledger.cells[Ledger.RULES];
    }

    public int enter(int term) {
        Ledger ledger = core.ledger;
        if (!core.terms.has(term) || ledger.cells[Ledger.ENTRIES] >= MAX_ENTRIES || ledger.entryOf(term) != NONE) {
            return refused(CANNOT_BE, NONE);
        }
        core.begin();
        ledger.addEntry(term);
        core.keep();
        return ledger.cells[Ledger.ENTRIES];
    }

    public int leave(int term) {
        Ledger ledger = core.ledger;
        int which = core.terms.has(term) ? ledger.entryOf(term) : NONE;
        if (which == NONE) {
            return refused(CANNOT_BE, NONE);
        }
        core.begin();
        ledger.dropEntry(which);
        core.keep();
        return ledger.cells[Ledger.ENTRIES];
    }

    public int room(int n) {
        if (n < 0 || n > MAX_ROOM) {
            return refused(CANNOT_BE, NONE);
        }
        int before = core.ledger.cells[Ledger.ROOM];
        core.begin();
        core.ledger.tellRoom(n);
        core.keep();
        return before;
    }

    public int draw(int seed, int depth) {
        if (depth < 1 || depth > MAX_DRAWN_DEPTH) {
            return refused(CANNOT_BE, NONE);
        }
        core.begin();
        maker.seed = seed;
        return settled(maker.drawn(depth));
    }

    public int undo() {
        return core.undoLast();
    }

    public int years(int seed, int n, int what) throws NoSuchElementException, IllegalArgumentException {
        if (what < 0 || what > 2) {
            throw new NoSuchElementException("no such question of the years");
        }
        if (n < 0 || n > MAX_YEARS) {
            throw new IllegalArgumentException("not so many years");
        }
        core.begin();
        int lost = lostBy(seed, n);
        int answer = lost == NONE ? NONE : yearsAnswer(lost, what);
        core.rollBack();
        return answer;
    }

    /** The weight lost in n years, NONE if a term is full or the steps are too much. */
    private int lostBy(int seed, int n) {
        maker.seed = seed;
        rewriter.allowSteps();
        int lost = 0;
        for (int year = 0; year < n; year++) {
            int drawn = maker.drawn(YEAR_DEPTH);
            int normal = drawn < 0 ? drawn : rewriter.normalOf(drawn);
            if (normal < 0) {
                return NONE;
            }
            lost += core.terms.weights[drawn] - core.terms.weights[normal];
        }
        return lost;
    }

    private int yearsAnswer(int lost, int what) {
        if (what == 0) {
            return lost;
        }
        int cell = what == 1 ? Ledger.HITS : Ledger.STEPS;
        return core.ledger.cells[cell] - core.before[cell];
    }

    public void image() {
        kept.takeFrom(core);
        hasImage = true;
    }

    public boolean restore() {
        if (!hasImage) {
            return false;
        }
        core.takeFrom(kept);
        return true;
    }

    private void needTerm(int term) {
        if (!core.terms.has(term)) {
            throw new NoSuchElementException("no such term");
        }
    }

    private static boolean isVariableNumber(int variable) {
        return variable >= 0 && variable < VARIABLES;
    }

    private int refused(int kind, int answer) {
        core.status[kind]++;
        return answer;
    }

    /** Ends an act that has begun: it is kept with what it got, or all is rolled back if that can't be held. */
    private int settled(int got) {
        if (got < 0) {
            core.rollBack();
            return refused(TOO_GREAT, got);
        }
        core.keep();
        return got;
    }

    /** The symbols that a text has told; only bank() changes them. */
    private static final class Symbols {
        final int[] names = new int[MAX_SYMBOLS];
        final int[] arities = new int[MAX_SYMBOLS];
        final int[] weights = new int[MAX_SYMBOLS];
        int told = 0;

        boolean has(int symbol) {
            return symbol >= 0 && symbol < told;
        }

        void empty() {
            told = 0;
        }

        void add(int name, int arity, int weight) {
            if (told < MAX_SYMBOLS) {
                names[told] = name;
                arities[told] = arity;
                weights[told] = weight;
                told++;
            }
        }

        int named(int name) {
            for (int k = 0; k < told; k++) {
                if (names[k] == name) {
                    return k;
                }
            }
            return NONE;
        }

        void takeFrom(Symbols other) {
            System.arraycopy(other.names, 0, names, 0, MAX_SYMBOLS);
            System.arraycopy(other.arities, 0, arities, 0, MAX_SYMBOLS);
            System.arraycopy(other.weights, 0, weights, 0, MAX_SYMBOLS);
            told = other.told;
        }
    }

    /** The terms by their numbers. A term's arguments always have lesser numbers than it has. */
    private static final class Terms {
        static final int BUCKETS = 256;
        /** One row more than terms: behind the last one stands the one that may come. */
        static final int ROWS = MAX_TERMS + 1;

        final Symbols symbols;
        /** The symbol's number, or the complement (below 0) of the variable's. */
        final int[] heads = new int[ROWS];
        final int[] arities = new int[ROWS];
        /** Three of each term, NONE beyond its arity. */
        final int[] arguments = new int[ROWS * MAX_ARITY];
        final int[] sizes = new int[ROWS];
        final int[] weights = new int[ROWS];
        final int[] depths = new int[ROWS];
        final int[] variables = new int[ROWS];
        /** The earliest term of the same shape. */
        final int[] shapes = new int[ROWS];
        /** The term that came before into the same bucket. */
        final int[] chains = new int[ROWS];
        final int[] buckets = new int[BUCKETS];
        /** 1 of what was marked last, else 0. */
        final int[] marks = new int[ROWS];
        int there = 0;

        Terms(Symbols symbols) {
            this.symbols = symbols;
            Arrays.fill(buckets, NONE);
        }

        boolean has(int term) {
            return term >= 0 && term < there;
        }

        boolean isVariable(int term) {
            return heads[term] < 0;
        }

        int argumentOf(int term, int i) {
            return arguments[term * MAX_ARITY + i];
        }

        void empty() {
            there = 0;
            Arrays.fill(buckets, NONE);
        }

        int variableTerm(int variable) {
            return made(~variable, NONE, NONE, NONE);
        }

        /** The term of a head and its arguments, those beyond the arity not looked at; FULL if one of them is it. */
        int made(int head, int a, int b, int c) {
            int term = there;
            boolean isSymbol = symbols.has(head);
            int arity = isSymbol ? symbols.arities[head] : 0;
            heads[term] = head;
            arities[term] = arity;
            weights[term] = isSymbol ? symbols.weights[head] : 1;
            arguments[term * MAX_ARITY] = arity > 0 ? a : NONE;
            arguments[term * MAX_ARITY + 1] = arity > 1 ? b : NONE;
            arguments[term * MAX_ARITY + 2] = arity > 2 ? c : NONE;
            if (arity > 0 && a < 0 || arity > 1 && b < 0 || arity > 2 && c < 0) {
                return FULL;
            }
            int bucket = bucketOf(term);
            shapes[term] = term;
            int seen = buckets[bucket];
            for (int k = 0; k < MAX_TERMS && seen != NONE; k++) {
                if (isSame(seen, term)) {
                    return seen;
                }
                if (hasShapeOf(seen, term)) {
                    shapes[term] = shapes[seen];
                }
                seen = chains[seen];
            }
            measure(term);
            if (term >= MAX_TERMS || depths[term] > MAX_DEPTH) {
                return FULL;
            }
            chains[term] = buckets[bucket];
            buckets[bucket] = term;
            there++;
            return term;
        }

        /** By shapes alone, so that all terms of one shape are in one bucket. */
        private int bucketOf(int term) {
            int mixed = Math.max(heads[term], NONE);
            for (int i = 0; i < arities[term]; i++) {
                mixed = mixed * 37 + shapes[arguments[term * MAX_ARITY + i]];
            }
            return (mixed ^ mixed >>> 8) & BUCKETS - 1;
        }

        private boolean isSame(int s, int t) {
            boolean same = heads[s] == heads[t];
            for (int i = 0; i < arities[t] && same; i++) {
                same = arguments[s * MAX_ARITY + i] == arguments[t * MAX_ARITY + i];
            }
            return same;
        }

        private boolean hasShapeOf(int s, int t) {
            boolean same = heads[s] == heads[t] || heads[s] < 0 && heads[t] < 0;
            for (int i = 0; i < arities[t] && same; i++) {
                same = shapes[arguments[s * MAX_ARITY + i]] == shapes[arguments[t * MAX_ARITY + i]];
            }
            return same;
        }

        /** Its own weight stands there already. */
        private void measure(int term) {
            sizes[term] = 1;
            depths[term] = 1;
            variables[term] = heads[term] < 0 ? 1 << ~heads[term] : 0;
            for (int i = 0; i < arities[term]; i++) {
                int part = arguments[term * MAX_ARITY + i];
                sizes[term] += sizes[part];
                weights[term] += weights[part];
                depths[term] = Math.max(depths[term], depths[part] + 1);
                variables[term] |= variables[part];
            }
        }

        /** The latest terms go, till there are n; each is the first of its bucket then. */
        void cutTo(int n) {
            for (int term = there - 1; term >= n && term >= 0; term--) {
                buckets[bucketOf(term)] = chains[term];
                there = term;
            }
        }

        boolean hasPlace(int term, int place) {
            return place >= 0 && place < sizes[term];
        }

        int inPlace(int term, int place) {
            int at = term;
            int left = place;
            for (int level = 0; level < MAX_DEPTH && left > 0; level++) {
                int i = argumentAtPlace(at, left);
                left = placeInArgument(at, left, i);
                at = argumentOf(at, i);
            }
            return at;
        }

        /** Which argument of a term holds a place (above 0) of it. */
        int argumentAtPlace(int term, int place) {
            int from = 1;
            int last = arities[term] - 1;
            for (int i = 0; i < last; i++) {
                from += sizes[argumentOf(term, i)];
                if (place < from) {
                    return i;
                }
            }
            return Math.max(last, 0);
        }

        int placeInArgument(int term, int place, int argument) {
            int from = 1;
            for (int i = 0; i < argument; i++) {
                from += sizes[argumentOf(term, i)];
            }
            return place - from;
        }

        /** Marks a term and all that it is made of, whose numbers are lesser ones. */
        void markParts(int term) {
            Arrays.fill(marks, 0);
            marks[term] = 1;
            for (int k = term; k >= 0; k--) {
                for (int i = 0; marks[k] == 1 && i < arities[k]; i++) {
                    marks[argumentOf(k, i)] = 1;
                }
            }
        }

        int shared(int term) {
            markParts(term);
            int parts = 0;
            for (int k = 0; k <= term; k++) {
                parts += marks[k];
            }
            return parts;
        }

        int users(int term) {
            int users = 0;
            for (int k = term + 1; k < there; k++) {
                if (argumentOf(k, 0) == term || argumentOf(k, 1) == term || argumentOf(k, 2) == term) {
                    users++;
                }
            }
            return users;
        }

        int unlikeShapes() {
            int unlike = 0;
            for (int k = 0; k < there; k++) {
                unlike += shapes[k] == k ? 1 : 0;
            }
            return unlike;
        }

        void takeFrom(Terms other) {
            there = other.there;
            System.arraycopy(other.heads, 0, heads, 0, there);
            System.arraycopy(other.arities, 0, arities, 0, there);
            System.arraycopy(other.arguments, 0, arguments, 0, there * MAX_ARITY);
            System.arraycopy(other.sizes, 0, sizes, 0, there);
            System.arraycopy(other.weights, 0, weights, 0, there);
            System.arraycopy(other.depths, 0, depths, 0, there);
            System.arraycopy(other.variables, 0, variables, 0, there);
            System.arraycopy(other.shapes, 0, shapes, 0, there);
            System.arraycopy(other.chains, 0, chains, 0, there);
            System.arraycopy(other.buckets, 0, buckets, 0, BUCKETS);
        }
    }

    /** All but the terms that acts change, in one row, so that keeping and undoing an act is one copy. */
    private static final class Ledger {
        static final int TERMS = 0;
        static final int ROOM = 1;
        static final int HITS = 2;
        static final int STEPS = 3;
        static final int RULES = 4;
        static final int ENTRIES = 5;
        static final int MEMOS = 6;
        static final int BOUND = 7;
        static final int LEFTS = BOUND + VARIABLES;
        static final int RIGHTS = LEFTS + MAX_RULES;
        static final int ENTRY = RIGHTS + MAX_RULES;
        static final int ASKED = ENTRY + MAX_ENTRIES;
        static final int ANSWERS = ASKED + MAX_ROOM;
        static final int CELLS = ANSWERS + MAX_ROOM;

        final int[] cells = new int[CELLS];

        Ledger() {
            fillAnew(cells);
        }

        private static void fillAnew(int[] cells) {
            Arrays.fill(cells, 0);
            for (int v = 0; v < VARIABLES; v++) {
                cells[BOUND + v] = NONE;
            }
            cells[ROOM] = USUAL_ROOM;
        }

        void empty() {
            fillAnew(cells);
        }

        void takeFrom(Ledger other) {
            System.arraycopy(other.cells, 0, cells, 0, CELLS);
        }

        void addRule(int left, int right) {
            int rules = cells[RULES];
            if (rules < MAX_RULES) {
                cells[LEFTS + rules] = left;
                cells[RIGHTS + rules] = right;
                cells[RULES] = rules + 1;
                cells[MEMOS] = 0;
            }
        }

        void tellRoom(int n) {
            cells[ROOM] = n;
            cells[MEMOS] = 0;
        }

        int entryOf(int term) {
            for (int i = 0; i < cells[ENTRIES]; i++) {
                if (cells[ENTRY + i] == term) {
                    return i;
                }
            }
            return NONE;
        }

        void addEntry(int term) {
            int entries = cells[ENTRIES];
            if (entries < MAX_ENTRIES) {
                cells[ENTRY + entries] = term;
                cells[ENTRIES] = entries + 1;
            }
        }

        void dropEntry(int which) {
            int last = cells[ENTRIES] - 1;
            for (int i = which; i < last; i++) {
                cells[ENTRY + i] = cells[ENTRY + i + 1];
            }
            cells[ENTRIES] = last;
        }

        /** What the memo has for a term, which is the last one used then; NONE if it has nothing. */
        int recalled(int term) {
            for (int i = 0; i < cells[MEMOS]; i++) {
                if (cells[ASKED + i] == term) {
                    int answer = cells[ANSWERS + i];
                    cells[HITS]++;
                    dropMemo(i);
                    addMemo(term, answer);
                    return answer;
                }
            }
            return NONE;
        }

        void remember(int term, int answer) {
            if (cells[ROOM] == 0) {
                return;
            }
            if (cells[MEMOS] >= cells[ROOM]) {
                dropMemo(0);
            }
            addMemo(term, answer);
        }

        private void addMemo(int term, int answer) {
            int memos = cells[MEMOS];
            if (memos < MAX_ROOM) {
                cells[ASKED + memos] = term;
                cells[ANSWERS + memos] = answer;
                cells[MEMOS] = memos + 1;
            }
        }

        private void dropMemo(int which) {
            int last = cells[MEMOS] - 1;
            for (int i = which; i < last; i++) {
                cells[ASKED + i] = cells[ASKED + i + 1];
                cells[ANSWERS + i] = cells[ANSWERS + i + 1];
            }
            cells[MEMOS] = last;
        }
    }

    /** What an image keeps: the terms, the ledger, the acts that can be undone, the status. */
    private static final class Core {
        final Terms terms;
        final Ledger ledger;
        /** The ledger as it was before an act, for each act that is kept; a ring of rows. */
        final int[][] undoRows = new int[MAX_ACTS][Ledger.CELLS];
        final int[] before = new int[Ledger.CELLS];
        final int[] status = new int[4];
        int firstAct = 0;
        int acts = 0;

        Core(Terms terms, Ledger ledger) {
            this.terms = terms;
            this.ledger = ledger;
        }

        void begin() {
            ledger.cells[Ledger.TERMS] = terms.there;
            System.arraycopy(ledger.cells, 0, before, 0, Ledger.CELLS);
        }

        void keep() {
            if (acts == MAX_ACTS) {
                firstAct = (firstAct + 1) % MAX_ACTS;
                acts--;
            }
            System.arraycopy(before, 0, undoRows[(firstAct + acts) % MAX_ACTS], 0, Ledger.CELLS);
            acts++;
        }

        void rollBack() {
            takeBack(before);
        }

        private void takeBack(int[] row) {
            System.arraycopy(row, 0, ledger.cells, 0, Ledger.CELLS);
            terms.cutTo(row[Ledger.TERMS]);
        }

        int undoLast() {
            if (acts == 0) {
                return NONE;
            }
            acts--;
            takeBack(undoRows[(firstAct + acts) % MAX_ACTS]);
            return acts;
        }

        void forgetActs() {
            acts = 0;
            firstAct = 0;
        }

        void takeFrom(Core other) {
            terms.takeFrom(other.terms);
            ledger.takeFrom(other.ledger);
            firstAct = other.firstAct;
            acts = other.acts;
            for (int k = 0; k < acts; k++) {
                int row = (firstAct + k) % MAX_ACTS;
                System.arraycopy(other.undoRows[row], 0, undoRows[row], 0, Ledger.CELLS);
            }
            System.arraycopy(other.status, 0, status, 0, status.length);
        }
    }

    /** Finds by which bindings a term, applied, is another one. */
    private static final class Matcher {
        final Terms terms;
        final int[] got = new int[VARIABLES];

        Matcher(Terms terms) {
            this.terms = terms;
        }

        boolean matches(int pattern, int term) {
            Arrays.fill(got, NONE);
            return fitsPart(pattern, term, 1);
        }

        private boolean fitsPart(int pattern, int term, int level) {
            if (level > MAX_DEPTH) {
                return false;
            }
            if (terms.isVariable(pattern)) {
                return takes(~terms.heads[pattern], term);
            }
            if (terms.heads[pattern] != terms.heads[term]) {
                return false;
            }
            for (int i = 0; i < terms.arities[pattern]; i++) {
                if (!fitsPart(terms.argumentOf(pattern, i), terms.argumentOf(term, i), level + 1)) {
                    return false;
                }
            }
            return true;
        }

        private boolean takes(int variable, int term) {
            if (got[variable] == NONE) {
                got[variable] = term;
            }
            return got[variable] == term;
        }
    }

    /** Which of two terms is greater, by the symbols' weights or with another weight tried for one of them. */
    private static final class Ordering {
        final Terms terms;
        final int[] balance = new int[VARIABLES];
        int weight = 0;
        int triedSymbol = NONE;
        int triedWeight = 0;

        Ordering(Terms terms) {
            this.terms = terms;
        }

        void tryWeight(int symbol, int tried) {
            triedSymbol = symbol;
            triedWeight = tried;
        }

        void tryNothing() {
            triedSymbol = NONE;
        }

        boolean isGreater(int first, int second) {
            int s = first;
            int t = second;
            for (int level = 0; level < MAX_DEPTH && s != t; level++) {
                weighBoth(s, t);
                if (lacksVariable() || weight < 0) {
                    return false;
                }
                if (weight > 0 || terms.isVariable(t)) {
                    return true;
                }
                if (terms.isVariable(s)) {
                    return false;
                }
                if (terms.heads[s] != terms.heads[t]) {
                    return terms.heads[s] > terms.heads[t];
                }
                int i = firstUnlike(s, t);
                s = terms.argumentOf(s, i);
                t = terms.argumentOf(t, i);
            }
            return false;
        }

        private void weighBoth(int s, int t) {
            Arrays.fill(balance, 0);
            weight = 0;
            weigh(s, 1, 1);
            weigh(t, -1, 1);
        }

        private void weigh(int term, int sign, int level) {
            if (level > MAX_DEPTH) {
                return;
            }
            int head = terms.heads[term];
            if (head < 0) {
                balance[~head] += sign;
                weight += sign;
                return;
            }
            weight += sign * (head == triedSymbol ? triedWeight : terms.symbols.weights[head]);
            for (int i = 0; i < terms.arities[term]; i++) {
                weigh(terms.argumentOf(term, i), sign, level + 1);
            }
        }

        private boolean lacksVariable() {
            for (int v = 0; v < VARIABLES; v++) {
                if (balance[v] < 0) {
                    return true;
                }
            }
            return false;
        }

        /** Of two unlike terms of one symbol; so there is one. */
        private int firstUnlike(int s, int t) {
            int last = terms.arities[s] - 1;
            for (int i = 0; i < last; i++) {
                if (terms.argumentOf(s, i) != terms.argumentOf(t, i)) {
                    return i;
                }
            }
            return Math.max(last, 0);
        }
    }

    /** Makes terms of others: with bindings put in, with a part replaced, what two have in common, drawn ones. */
    private static final class Maker {
        final Terms terms;
        /** What each variable is when it is closed; NONE as long as that is not known. */
        final int[] closedTerms = new int[VARIABLES];
        final int[] coupleFirst = new int[VARIABLES];
        final int[] coupleSecond = new int[VARIABLES];
        int couples = 0;
        int seed = 0;

        Maker(Terms terms) {
            this.terms = terms;
        }

        int applied(int term, int[] row, int from) {
            return appliedPart(term, row, from, 1);
        }

        private int appliedPart(int term, int[] row, int from, int level) {
            if (level > MAX_DEPTH) {
                return FULL;
            }
            if (terms.isVariable(term)) {
                int bound = row[from + ~terms.heads[term]];
                return bound == NONE ? term : bound;
            }
            int arity = terms.arities[term];
            int a = arity < 1 ? NONE : appliedPart(terms.argumentOf(term, 0), row, from, level + 1);
            int b = arity < 2 ? NONE : appliedPart(terms.argumentOf(term, 1), row, from, level + 1);
            int c = arity < 3 ? NONE : appliedPart(terms.argumentOf(term, 2), row, from, level + 1);
            return terms.made(terms.heads[term], a, b, c);
        }

        /** Whether closing a term would never end: some variable that it leads to leads to itself. */
        boolean hasRing(int term, int[] row, int from) {
            int reached = reachedFrom(terms.variables[term], row, from);
            for (int v = 0; v < VARIABLES; v++) {
                int bound = row[from + v];
                if ((reached >> v & 1) != 0 && bound != NONE
                    && (reachedFrom(terms.variables[bound], row, from) >> v & 1) != 0) {
                    return true;
                }
            }
            return false;
        }

        /** The variables (bits) that stand in terms that some variables lead to, with these. */
        private int reachedFrom(int bits, int[] row, int from) {
            int reached = bits;
            for (int round = 0; round < VARIABLES; round++) {
                for (int v = 0; v < VARIABLES; v++) {
                    int bound = row[from + v];
                    if ((reached >> v & 1) != 0 && bound != NONE) {
                        reached |= terms.variables[bound];
                    }
                }
            }
            return reached;
        }

        /** Only for a term without a ring. */
        int closed(int term, int[] row, int from) {
            Arrays.fill(closedTerms, NONE);
            return closedPart(term, row, from, 1);
        }

        private int closedPart(int term, int[] row, int from, int level) {
            // Without a ring a way down passes each variable once, so what goes on is deeper than terms can be.
            if (level > MAX_DEPTH + VARIABLES) {
                return FULL;
            }
            if (terms.isVariable(term)) {
                return closedVariable(term, row, from, level);
            }
            int arity = terms.arities[term];
            int a = arity < 1 ? NONE : closedPart(terms.argumentOf(term, 0), row, from, level + 1);
            int b = arity < 2 ? NONE : closedPart(terms.argumentOf(term, 1), row, from, level + 1);
            int c = arity < 3 ? NONE : closedPart(terms.argumentOf(term, 2), row, from, level + 1);
            return terms.made(terms.heads[term], a, b, c);
        }

        private int closedVariable(int term, int[] row, int from, int level) {
            int variable = ~terms.heads[term];
            int bound = row[from + variable];
            if (bound == NONE) {
                return term;
            }
            if (closedTerms[variable] == NONE) {
                closedTerms[variable] = closedPart(bound, row, from, level + 1);
            }
            return closedTerms[variable];
        }

        int replaced(int term, int place, int other) {
            return replacedPart(term, place, other, 1);
        }

        private int replacedPart(int term, int place, int other, int level) {
            if (place <= 0) {
                return other;
            }
            if (level > MAX_DEPTH) {
                return FULL;
            }
            int i = terms.argumentAtPlace(term, place);
            int part = terms.argumentOf(term, i);
            int made = replacedPart(part, terms.placeInArgument(term, place, i), other, level + 1);
            int a = i == 0 ? made : terms.argumentOf(term, 0);
            int b = i == 1 ? made : terms.argumentOf(term, 1);
            int c = i == 2 ? made : terms.argumentOf(term, 2);
            return terms.made(terms.heads[term], a, b, c);
        }

        /** Whether variables suffice for what two terms have in common; collects its couples. */
        boolean haveCommon(int s, int t) {
            couples = 0;
            return couple(s, t, 1);
        }

        private boolean couple(int s, int t, int level) {
            if (level > MAX_DEPTH) {
                return false;
            }
            if (terms.isVariable(s) || terms.heads[s] != terms.heads[t]) {
                return addCouple(s, t);
            }
            for (int i = 0; i < terms.arities[s]; i++) {
                if (!couple(terms.argumentOf(s, i), terms.argumentOf(t, i), level + 1)) {
                    return false;
                }
            }
            return true;
        }

        private boolean addCouple(int s, int t) {
            if (coupleOf(s, t) != NONE) {
                return true;
            }
            if (couples >= VARIABLES) {
                return false;
            }
            coupleFirst[couples] = s;
            coupleSecond[couples] = t;
            couples++;
            return true;
        }

        private int coupleOf(int s, int t) {
            for (int k = 0; k < couples; k++) {
                if (coupleFirst[k] == s && coupleSecond[k] == t) {
                    return k;
                }
            }
            return NONE;
        }

        /** Of the two terms that haveCommon() was just asked for. */
        int commonOf(int s, int t) {
            return commonPart(s, t, 1);
        }

        private int commonPart(int s, int t, int level) {
            if (level > MAX_DEPTH) {
                return FULL;
            }
            int couple = coupleOf(s, t);
            if (couple != NONE) {
                return terms.variableTerm(couple);
            }
            int arity = terms.arities[s];
            int a = arity < 1 ? NONE : commonPart(terms.argumentOf(s, 0), terms.argumentOf(t, 0), level + 1);
            int b = arity < 2 ? NONE : commonPart(terms.argumentOf(s, 1), terms.argumentOf(t, 1), level + 1);
            int c = arity < 3 ? NONE : commonPart(terms.argumentOf(s, 2), terms.argumentOf(t, 2), level + 1);
            return terms.made(terms.heads[s], a, b, c);
        }

        /** A term drawn from the seed, which goes on with each draw. */
        int drawn(int depth) {
            return drawnPart(Math.min(depth, MAX_DRAWN_DEPTH));
        }

        private int drawnPart(int depth) {
            int first = drawOf(8);
            int symbols = terms.symbols.told;
            if (first == 0 || depth <= 1 || symbols == 0) {
                return terms.variableTerm(drawOf(3));
            }
            int symbol = drawOf(symbols);
            int arity = terms.symbols.arities[symbol];
            int a = arity < 1 ? NONE : drawnPart(depth - 1);
            int b = arity < 2 ? NONE : drawnPart(depth - 1);
            int c = arity < 3 ? NONE : drawnPart(depth - 1);
            return terms.made(symbol, a, b, c);
        }

        private int drawOf(int n) {
            seed = seed * 1103515245 + 12345;
            return n > 0 ? (seed >>> 16 & 0x7fff) % n : 0;
        }
    }

    /** Makes two terms alike: classes of nodes that must be one; a node is a term on one of two sides. */
    private static final class Unifier {
        static final int NODES = 2 * MAX_TERMS;
        static final int TOGETHER = 0;
        static final int APART = MAX_TERMS;

        final Terms terms;
        /** A node is as new as long as it wasn't touched in this round. */
        final int[] rounds = new int[NODES];
        final int[] parents = new int[NODES];
        /** Of a class: a node that is no variable, or NONE. */
        final int[] solid = new int[NODES];
        /** Of a class of variables alone: the node of the least one. */
        final int[] least = new int[NODES];
        /** Of a class: the term that all of it is, once that is made. */
        final int[] solved = new int[NODES];
        final int[] pairFirst = new int[NODES * MAX_ARITY + 1];
        final int[] pairSecond = new int[NODES * MAX_ARITY + 1];
        final int[] listed = new int[NODES];
        /** Of a class that is listed: how many arguments of others it still is; NONE if it is not listed. */
        final int[] uses = new int[NODES];
        int round = 0;
        int pairs = 0;

        Unifier(Terms terms) {
            this.terms = terms;
        }

        /** ALIKE, CLASH or RING; with APART as the second one's side the variables of both are told apart. */
        int wayOf(int s, int t, int side) {
            round++;
            pairs = 0;
            addPair(s, t + side);
            // Each pair beyond the first comes by joining two classes, and there are fewer joins than nodes.
            for (int k = 0; k < pairs && k < pairFirst.length; k++) {
                if (!joined(topOf(pairFirst[k]), topOf(pairSecond[k]))) {
                    return CLASH;
                }
            }
            int root = topOf(s);
            int all = listAll(root);
            return takenAway(root) < all ? RING : ALIKE;
        }

        private void addPair(int x, int y) {
            if (pairs < pairFirst.length) {
                pairFirst[pairs] = x;
                pairSecond[pairs] = y;
                pairs++;
            }
        }

        private int termOf(int node) {
            return node < MAX_TERMS ? node : node - MAX_TERMS;
        }

        private int sideOf(int node) {
            return node < MAX_TERMS ? 0 : MAX_TERMS;
        }

        private int partOf(int node, int i) {
            return terms.argumentOf(termOf(node), i) + sideOf(node);
        }

        private int topOf(int node) {
            if (rounds[node] != round) {
                wake(node);
            }
            int top = node;
            for (int k = 0; k < NODES && parents[top] != top; k++) {
                parents[top] = parents[parents[top]];
                top = parents[top];
            }
            return top;
        }

        private void wake(int node) {
            boolean isVariable = terms.heads[termOf(node)] < 0;
            rounds[node] = round;
            parents[node] = node;
            solid[node] = isVariable ? NONE : node;
            least[node] = node;
            solved[node] = NONE;
            uses[node] = NONE;
        }

        /** Makes two classes one, and pairs their arguments; false if their symbols are unlike. */
        private boolean joined(int x, int y) {
            if (x == y) {
                return true;
            }
            int p = solid[x];
            int q = solid[y];
            parents[y] = x;
            solid[x] = p == NONE ? q : p;
            if (p == NONE && q == NONE) {
                least[x] = lesser(least[x], least[y]);
            }
            if (p == NONE || q == NONE) {
                return true;
            }
            if (terms.heads[termOf(p)] != terms.heads[termOf(q)]) {
                return false;
            }
            for (int i = 0; i < terms.arities[termOf(p)]; i++) {
                addPair(partOf(p, i), partOf(q, i));
            }
            return true;
        }

        /** Of two variables' nodes that of the lesser variable. */
        private int lesser(int x, int y) {
            return ~terms.heads[termOf(x)] <= ~terms.heads[termOf(y)] ? x : y;
        }

        /** Takes away, from the root on, each class that is in none that is left; a ring never goes: how many go. */
        private int takenAway(int root) {
            int gone = 0;
            if (uses[root] == 0) {
                listed[gone] = root;
                gone++;
            }
            for (int k = 0; k < gone && k < NODES; k++) {
                int node = solid[listed[k]];
                for (int i = 0; node != NONE && i < terms.arities[termOf(node)]; i++) {
                    int part = topOf(partOf(node, i));
                    uses[part]--;
                    if (uses[part] == 0 && gone < NODES) {
                        listed[gone] = part;
                        gone++;
                    }
                }
            }
            return gone;
        }

        /** Lists the root class and all that its terms are made of, with their uses: how many. */
        private int listAll(int root) {
            int found = 1;
            listed[0] = root;
            uses[root] = 0;
            for (int k = 0; k < found && k < NODES; k++) {
                int node = solid[listed[k]];
                for (int i = 0; node != NONE && i < terms.arities[termOf(node)]; i++) {
                    int part = topOf(partOf(node, i));
                    if (uses[part] == NONE && found < NODES) {
                        uses[part] = 0;
                        listed[found] = part;
                        found++;
                    }
                    uses[part]++;
                }
            }
            return found;
        }

        /** Binds, after wayOf() of terms TOGETHER was ALIKE, the variables of these bits, and no others: 1, or FULL. */
        int bindAll(int bits, int[] row, int from) {
            for (int v = 0; v < VARIABLES; v++) {
                int bound = (bits >> v & 1) == 0 ? NONE : boundOf(terms.variableTerm(v));
                if (bound == FULL) {
                    return FULL;
                }
                row[from + v] = bound;
            }
            return 1;
        }

        private int boundOf(int node) {
            if (node < 0) {
                return FULL;
            }
            int top = topOf(node);
            if (solid[top] != NONE) {
                return solvedClass(top, 1);
            }
            return least[top] == node ? NONE : least[top];
        }

        /** The term that a class is; deeper than terms can be, it is FULL. */
        private int solvedClass(int top, int level) {
            if (level > MAX_DEPTH) {
                return FULL;
            }
            if (solved[top] == NONE) {
                int node = solid[top];
                solved[top] = node == NONE ? least[top] : solvedTerm(node, level);
            }
            return solved[top];
        }

        private int solvedTerm(int node, int level) {
            int arity = terms.arities[termOf(node)];
            int a = arity < 1 ? NONE : solvedClass(topOf(partOf(node, 0)), level + 1);
            int b = arity < 2 ? NONE : solvedClass(topOf(partOf(node, 1)), level + 1);
            int c = arity < 3 ? NONE : solvedClass(topOf(partOf(node, 2)), level + 1);
            return terms.made(terms.heads[termOf(node)], a, b, c);
        }
    }

    /** What rules are, where they meet, by which weights they still are; what the index finds. */
    private static final class Rulebook {
        final Core core;
        final Terms terms;
        final Matcher matcher;
        final Unifier unifier;
        final Ordering ordering;

        Rulebook(Core core, Matcher matcher, Unifier unifier, Ordering ordering) {
            this.core = core;
            this.terms = core.terms;
            this.matcher = matcher;
            this.unifier = unifier;
            this.ordering = ordering;
        }

        int compared(int s, int t) {
            if (s == t) {
                return 0;
            }
            if (ordering.isGreater(s, t)) {
                return 1;
            }
            return ordering.isGreater(t, s) ? 2 : 3;
        }

        boolean isRule(int left, int right) {
            return terms.has(left) && terms.has(right) && !terms.isVariable(left)
                && terms.sizes[left] <= MAX_RULE_SIZE && terms.sizes[right] <= MAX_RULE_SIZE
                && ordering.isGreater(left, right);
        }

        int fits(int symbol) {
            int fitting = 0;
            for (int weight = 1; weight <= MAX_WEIGHT; weight++) {
                fitting += fitsBy(symbol, weight) ? 1 : 0;
            }
            return fitting;
        }

        int leastFit(int symbol) {
            for (int weight = 1; weight <= MAX_WEIGHT; weight++) {
                if (fitsBy(symbol, weight)) {
                    return weight;
                }
            }
            return NONE;
        }

        private boolean fitsBy(int symbol, int weight) {
            int[] cells = core.ledger.cells;
            boolean all = true;
            ordering.tryWeight(symbol, weight);
            for (int i = 0; i < cells[Ledger.RULES] && all; i++) {
                all = isRule(cells[Ledger.LEFTS + i], cells[Ledger.RIGHTS + i]);
            }
            ordering.tryNothing();
            return all;
        }

        int meetings() {
            int met = 0;
            for (int i = 0; i < core.ledger.cells[Ledger.RULES]; i++) {
                int places = terms.sizes[leftOf(i)];
                for (int place = 0; place < places; place++) {
                    for (int j = 0; j < core.ledger.cells[Ledger.RULES]; j++) {
                        met += meet(i, place, j) ? 1 : 0;
                    }
                }
            }
            return met;
        }

        int firstMeeting() {
            for (int i = 0; i < core.ledger.cells[Ledger.RULES]; i++) {
                int places = terms.sizes[leftOf(i)];
                for (int place = 0; place < places; place++) {
                    for (int j = 0; j < core.ledger.cells[Ledger.RULES]; j++) {
                        if (meet(i, place, j)) {
                            return 1000 * i + 10 * place + j;
                        }
                    }
                }
            }
            return NONE;
        }

        private int leftOf(int rule) {
            return core.ledger.cells[Ledger.LEFTS + rule];
        }

        private boolean meet(int i, int place, int j) {
            if (i == j && place == 0) {
                return false;
            }
            int part = terms.inPlace(leftOf(i), place);
            return !terms.isVariable(part) && unifier.wayOf(part, leftOf(j), Unifier.APART) == ALIKE;
        }

        int found(int term, int what) {
            int[] cells = core.ledger.cells;
            int bits = 0;
            for (int i = 0; i < cells[Ledger.ENTRIES]; i++) {
                if (isFound(cells[Ledger.ENTRY + i], term, what)) {
                    bits |= 1 << i;
                }
            }
            return bits;
        }

        private boolean isFound(int entry, int term, int what) {
            switch (what) {
                case 0: return matcher.matches(entry, term);
                case 1: return matcher.matches(term, entry);
                case 2: return unifier.wayOf(entry, term, Unifier.APART) == ALIKE;
                default: return terms.shapes[entry] == terms.shapes[term];
            }
        }

        /** The first rule whose left side matches a term, with the bindings in the matcher; NONE without. */
        static int firstRule(Ledger ledger, Matcher matcher, int term) {
            for (int i = 0; i < ledger.cells[Ledger.RULES]; i++) {
                if (matcher.matches(ledger.cells[Ledger.LEFTS + i], term)) {
                    return i;
                }
            }
            return NONE;
        }

        boolean isReduced(int term) {
            terms.markParts(term);
            for (int part = 0; part <= term; part++) {
                if (terms.marks[part] == 1 && firstRule(core.ledger, matcher, part) != NONE) {
                    return false;
                }
            }
            return true;
        }
    }

    /** Makes normal forms. Steps follow one another far deeper than calls may, so the frames stand in rows. */
    private static final class Rewriter {
        /** Between two steps, of 100 at most, no more than 6 terms stand in one another. */
        static final int FRAMES = (MAX_STEPS + 2) * MAX_DEPTH;
        static final int MAX_TURNS = 1000000;
        static final int STEPPED = MAX_ARITY + 1;

        final Core core;
        final Terms terms;
        final Matcher matcher;
        final Maker maker;
        final int[] asked = new int[FRAMES];
        /** How many arguments are normal already, or STEPPED. */
        final int[] stages = new int[FRAMES];
        final int[] parts = new int[FRAMES * MAX_ARITY];
        int height = 0;
        int stepsLeft = 0;

        Rewriter(Core core, Matcher matcher, Maker maker) {
            this.core = core;
            this.terms = core.terms;
            this.matcher = matcher;
            this.maker = maker;
        }

        void allowSteps() {
            stepsLeft = MAX_STEPS;
        }

        /** The normal form, FULL, or TOO_MUCH. */
        int normalOf(int term) {
            height = 0;
            int value = opened(term);
            for (int turn = 0; turn < MAX_TURNS && height > 0 && value >= NONE; turn++) {
                value = value == NONE ? wentOn(height - 1) : handed(value, height - 1);
            }
            return value == NONE ? TOO_MUCH : value;
        }

        /** What is known at once of a term; else a frame for it, and NONE. */
        private int opened(int term) {
            if (term < 0 || terms.isVariable(term)) {
                return term;
            }
            int known = core.ledger.recalled(term);
            if (known != NONE) {
                return known;
            }
            if (height >= FRAMES) {
                return TOO_MUCH;
            }
            asked[height] = term;
            stages[height] = 0;
            height++;
            return NONE;
        }

        private int wentOn(int frame) {
            int term = asked[frame];
            if (stages[frame] < terms.arities[term]) {
                return opened(terms.argumentOf(term, stages[frame]));
            }
            int at = frame * MAX_ARITY;
            int made = terms.made(terms.heads[term], parts[at], parts[at + 1], parts[at + 2]);
            if (made < 0) {
                return made;
            }
            int rule = Rulebook.firstRule(core.ledger, matcher, made);
            if (rule == NONE) {
                return closedWith(made, frame);
            }
            if (stepsLeft <= 0) {
                return TOO_MUCH;
            }
            countStep(frame);
            return opened(maker.applied(core.ledger.cells[Ledger.RIGHTS + rule], matcher.got, 0));
        }

        private void countStep(int frame) {
            stepsLeft--;
            core.ledger.cells[Ledger.STEPS]++;
            stages[frame] = STEPPED;
        }

        private int handed(int value, int frame) {
            int stage = stages[frame];
            if (stage >= MAX_ARITY) {
                return closedWith(value, frame);
            }
            parts[frame * MAX_ARITY + stage] = value;
            stages[frame] = stage + 1;
            return NONE;
        }

        private int closedWith(int value, int frame) {
            core.ledger.remember(asked[frame], value);
            height = frame;
            return value;
        }
    }

    /** Reads a text that tells a bank, into a core and symbols that are empty. */
    private static final class Reader {
        static final int END = 0;
        static final int BAD = 1;
        static final int WORD = 2;
        static final int NUMBER = 3;
        static final int FAULTED = -1;

        final int[] tape;
        final Core core;
        final Symbols symbols;
        final Rulebook rulebook;
        int length = 0;
        /** The token that is looked at: its kind (a sign is its own), its first byte, the byte behind it. */
        int kind = END;
        int start = 0;
        int end = 0;
        int fault = 0;
        int faultAt = NONE;
        boolean roomTold = false;

        Reader(int[] tape, Core core, Rulebook rulebook) {
            this.tape = tape;
            this.core = core;
            this.symbols = core.terms.symbols;
            this.rulebook = rulebook;
        }

        int faultPlace() {
            return faultAt;
        }

        /** 0, or the fault. */
        int readBank(int n) {
            length = Math.min(n, tape.length);
            end = 0;
            fault = 0;
            faultAt = NONE;
            roomTold = false;
            next();
            for (int k = 0; k < MAX_TAPE && kind != END && fault == 0; k++) {
                if (isWord("symbol")) {
                    readSymbol();
                } else if (isWord("term")) {
                    readLoneTerm();
                } else if (isWord("rule")) {
                    readRule();
                } else if (isWord("entry")) {
                    readEntry();
                } else if (isWord("room")) {
                    readRoom();
                } else {
                    fail(1);
                }
            }
            return fault;
        }

        private void next() {
            start = end;
            while (start < length && (tape[start] == ' ' || tape[start] == '\n')) {
                start++;
            }
            kind = start < length ? kindOf(tape[start]) : END;
            end = Math.min(start + 1, length);
            while ((kind == WORD || kind == NUMBER) && end < length && kindOf(tape[end]) == kind) {
                end++;
            }
        }

        private static int kindOf(int letter) {
            if (letter >= 'a' && letter <= 'z') {
                return WORD;
            }
            if (letter >= '0' && letter <= '9') {
                return NUMBER;
            }
            boolean isSign = letter == '?' || letter == '(' || letter == ')' || letter == ',' || letter == ';';
            return isSign ? letter : BAD;
        }

        /** Faults at the token that is looked at. */
        private int fail(int code) {
            if (fault == 0) {
                fault = code;
                faultAt = start;
            }
            return FAULTED;
        }

        private boolean isWord(String word) {
            if (kind != WORD || end - start != word.length()) {
                return false;
            }
            for (int k = 0; k < word.length(); k++) {
                if (tape[start + k] != word.charAt(k)) {
                    return false;
                }
            }
            return true;
        }

        /** Passes a sign, or faults. */
        private void pass(int sign) {
            if (fault != 0) {
                return;
            }
            if (kind != sign) {
                fail(1);
                return;
            }
            next();
        }

        private void readLoneTerm() {
            next();
            readTerm(1);
            pass(';');
        }

        private void readSymbol() {
            if (symbols.told >= MAX_SYMBOLS) {
                fail(2);
                return;
            }
            next();
            int name = readNewName();
            int arity = readNumber(0, MAX_ARITY);
            int weight = readNumber(1, MAX_WEIGHT);
            pass(';');
            if (fault == 0) {
                symbols.add(name, arity, weight);
            }
        }

        private int readNewName() {
            if (kind != WORD) {
                return fail(1);
            }
            if (end - start > 1) {
                return fail(2);
            }
            int name = tape[start];
            if (symbols.named(name) != NONE) {
                return fail(4);
            }
            next();
            return name;
        }

        private int readNumber(int least, int greatest) {
            if (fault != 0) {
                return FAULTED;
            }
            if (kind != NUMBER) {
                return fail(1);
            }
            int number = tape[start] - '0';
            if (end - start > 1 || number < least || number > greatest) {
                return fail(2);
            }
            next();
            return number;
        }

        private void readRule() {
            if (core.ledger.cells[Ledger.RULES] >= MAX_RULES) {
                fail(2);
                return;
            }
            next();
            int left = readTerm(1);
            passTo();
            int right = readTerm(1);
            if (fault == 0 && kind == ';' && !rulebook.isRule(left, right)) {
                fail(5);
            }
            pass(';');
            if (fault == 0) {
                core.ledger.addRule(left, right);
            }
        }

        private void passTo() {
            if (fault != 0) {
                return;
            }
            if (!isWord("to")) {
                fail(1);
                return;
            }
            next();
        }

        private void readEntry() {
            if (core.ledger.cells[Ledger.ENTRIES] >= MAX_ENTRIES) {
                fail(2);
                return;
            }
            next();
            int term = readTerm(1);
            if (fault == 0 && kind == ';' && core.ledger.entryOf(term) != NONE) {
                fail(5);
            }
            pass(';');
            if (fault == 0) {
                core.ledger.addEntry(term);
            }
        }

        private void readRoom() {
            if (roomTold) {
                fail(4);
                return;
            }
            next();
            int room = readNumber(0, MAX_ROOM);
            pass(';');
            if (fault == 0) {
                core.ledger.tellRoom(room);
                roomTold = true;
            }
        }

        private int readTerm(int depth) {
            if (fault != 0) {
                return FAULTED;
            }
            if (kind != '?' && kind != WORD) {
                return fail(1);
            }
            if (depth > MAX_DEPTH) {
                return fail(2);
            }
            return kind == '?' ? readVariable() : readCompound(depth);
        }

        private int readVariable() {
            next();
            int variable = readNumber(0, VARIABLES - 1);
            return fault == 0 ? held(core.terms.variableTerm(variable)) : FAULTED;
        }

        private int readCompound(int depth) {
            if (end - start > 1) {
                return fail(2);
            }
            int symbol = symbols.named(tape[start]);
            if (symbol == NONE) {
                return fail(3);
            }
            next();
            int arity = symbols.arities[symbol];
            int a = arity < 1 ? NONE : readArgument('(', depth);
            int b = arity < 2 ? NONE : readArgument(',', depth);
            int c = arity < 3 ? NONE : readArgument(',', depth);
            if (arity > 0) {
                pass(')');
            }
            return fault == 0 ? held(core.terms.made(symbol, a, b, c)) : FAULTED;
        }

        private int readArgument(int sign, int depth) {
            pass(sign);
            return readTerm(depth + 1);
        }

        /** 700 bytes never tell 400 terms; were it otherwise, it would be too much. */
        private int held(int term) {
            return term < 0 ? fail(2) : term;
        }
    }
}
