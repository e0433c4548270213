/** Objects that are built alike: one gets a call, the other one tells how all else must be behind it. */
final class Twins {
    /** Behind these many terms a picture shows the first and the last ones alone: an object is promised 512 calls. */
    private static final int SHOWN = 20;
    private static final int ACTS = 40;

    private Twins() { }

    interface Build {
        TermBank bank();
    }

    interface Call {
        int of(TermBank bank);
    }

    /** A call that can't be: nothing but one number of STATUS changes, and it is no act. */
    static void refused(String what, Build build, Call call, int answer, int kind) {
        TermBank bank = build.bank();
        TermBank twin = build.bank();
        Checks.due(what, Checks.answer(() -> call.of(bank)), answer);
        Checks.due(what + ": ACTS", bank.count(11), twin.count(11));
        sameAll(what, bank, twin, kind);
        sameBehind(what, bank, twin);
    }

    /** A call that only asks, or throws: nothing changes. The answer may be the code of an exception. */
    static void asked(String what, Build build, Call call, long answer) {
        TermBank bank = build.bank();
        TermBank twin = build.bank();
        Checks.due(what, Checks.answer(() -> call.of(bank)), answer);
        Checks.due(what + ": ACTS", bank.count(11), twin.count(11));
        sameAll(what, bank, twin, -1);
        sameBehind(what, bank, twin);
    }

    static void noSuch(String what, Build build, Call call) {
        asked(what + " (throws)", build, call, Checks.NO_SUCH_ELEMENT);
    }

    static void illegal(String what, Build build, Call call) {
        asked(what + " (throws)", build, call, Checks.ILLEGAL_ARGUMENT);
    }

    /** A call that is an act: one more is kept, STATUS is as it was, and with it undone all is. */
    static void acted(String what, Build build, Call call, int answer) {
        TermBank bank = build.bank();
        TermBank twin = build.bank();
        Checks.due(what, Checks.answer(() -> call.of(bank)), answer);
        int acts = Math.min(twin.count(11) + 1, ACTS);
        Checks.due(what + ": ACTS", bank.count(11), acts);
        Checks.due(what + ": undo()", bank.undo(), acts - 1);
        sameAll(what + " undone", bank, twin, -1);
    }

    private static void sameAll(String what, TermBank bank, TermBank twin, int kind) {
        for (int k = 0; k < 4; k++) {
            Checks.due(what + ": STATUS " + k, bank.count(13 + k), twin.count(13 + k) + (k == kind ? 1 : 0));
        }
        Checks.due(what + ": fault()", bank.fault(), twin.fault());
        Checks.due(what + ": tape", bank.count(12), twin.count(12));
        same(what, picture(bank), picture(twin));
    }

    /** The acts and the image are as they were, too. */
    static void sameBehind(String what, TermBank bank, TermBank twin) {
        for (int k = 0; k < 3; k++) {
            Checks.due(what + ": undo() behind it", bank.undo(), twin.undo());
            same(what + ", " + k + " undone", brief(bank), brief(twin));
        }
        Checks.due(what + ": restore() behind it", bank.restore() ? 1 : 0, twin.restore() ? 1 : 0);
        same(what + ", restored", brief(bank), brief(twin));
    }

    /** All that is told of the last eight terms, which are found again when they are made again. */
    static void sameTerms(String what, TermBank bank, TermBank twin) {
        int terms = bank.count(1);
        Checks.due(what + ": terms", terms, twin.count(1));
        for (int t = Math.max(terms - 8, 0); t < terms; t++) {
            for (int asked = 0; asked < 10; asked++) {
                Checks.due(what + ": term(" + t + ", " + asked + ")", bank.term(t, asked), twin.term(t, asked));
            }
            Checks.due(what + ": made again", again(bank, t), t);
        }
        Checks.due(what + ": none came", bank.count(1), terms);
        Checks.due(what + ": SHAPES", bank.count(8), twin.count(8));
    }

    /** Makes a term again, of what it is made of. */
    static int again(TermBank bank, int term) {
        int symbol = bank.term(term, 0);
        if (symbol < 0) {
            return bank.variable(bank.term(term, 1));
        }
        int arity = bank.symbol(symbol, 1);
        int a = arity > 0 ? bank.argument(term, 0) : 0;
        int b = arity > 1 ? bank.argument(term, 1) : 0;
        int c = arity > 2 ? bank.argument(term, 2) : 0;
        return bank.make(symbol, a, b, c);
    }

    static void same(String what, String got, String want) {
        Checks.due(got.equals(want) ? what : what + ": it is\n" + got + "\ndue is\n" + want + "\n", got.equals(want) ? 1 : 0, 1);
    }

    private static String brief(TermBank bank) {
        StringBuilder text = new StringBuilder();
        for (int what = 1; what < 8; what++) {
            text.append(bank.count(what)).append(' ');
        }
        for (int v = 0; v < 8; v++) {
            text.append(bank.bound(v)).append(' ');
        }
        return text.toString();
    }

    /** All that the face tells but STATUS, the number of acts, the tape and the place of a fault. */
    static String picture(TermBank bank) {
        StringBuilder text = new StringBuilder(told(bank)).append("\ncounts");
        for (int what = 0; what < 11; what++) {
            text.append(' ').append(bank.count(what));
        }
        text.append("\nmemo").append(memo(bank)).append("\nbound").append(bounds(bank));
        return text.toString();
    }

    static String memo(TermBank bank) {
        StringBuilder text = new StringBuilder();
        for (int i = 0; i < bank.count(5); i++) {
            text.append(' ').append(bank.memo(i, 0)).append('=').append(bank.memo(i, 1));
        }
        return text.toString();
    }

    static String bounds(TermBank bank) {
        StringBuilder text = new StringBuilder();
        for (int v = 0; v < 8; v++) {
            text.append(' ').append(bank.bound(v));
        }
        return text.toString();
    }

    /** What a text may tell: symbols, terms by their numbers, rules, entries, room. */
    static String told(TermBank bank) {
        StringBuilder text = new StringBuilder("symbols");
        for (int k = 0; k < bank.count(0); k++) {
            text.append(' ').append((char) bank.symbol(k, 0)).append(bank.symbol(k, 1)).append(bank.symbol(k, 2));
        }
        text.append("; terms");
        int terms = bank.count(1);
        for (int t = 0; t < terms; t++) {
            if (terms <= SHOWN || t < 4 || t >= terms - SHOWN + 4) {
                text.append(' ').append(term(bank, t));
            }
        }
        text.append("; rules");
        for (int i = 0; i < bank.count(2); i++) {
            text.append(' ').append(bank.rule(i, 0)).append('>').append(bank.rule(i, 1));
        }
        text.append("; entries");
        for (int i = 0; i < bank.count(3); i++) {
            text.append(' ').append(bank.entry(i));
        }
        return text.append("; room ").append(bank.count(4)).toString();
    }

    /** A term by its head and its arguments' numbers, as ?3, a, f(0,2). */
    private static String term(TermBank bank, int t) {
        int symbol = bank.term(t, 0);
        if (symbol < 0) {
            return "?" + bank.term(t, 1);
        }
        StringBuilder text = new StringBuilder().append((char) bank.symbol(symbol, 0));
        int arity = bank.symbol(symbol, 1);
        for (int i = 0; i < arity; i++) {
            text.append(i == 0 ? "(" : ",").append(bank.argument(t, i));
        }
        return text.append(arity > 0 ? ")" : "").toString();
    }
}
