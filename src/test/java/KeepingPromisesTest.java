/** Promises 31 to 34: undo, years, image, restore. */
public final class KeepingPromisesTest {
    private static final int[] WRONG = {-1, -2, Integer.MIN_VALUE, Integer.MAX_VALUE};
    private static final String BASE = "symbol a 0 1;symbol f 2 2;symbol g 1 1;term f(?0,g(a));rule g(g(?0)) to ?0;"
        + "rule f(?0,a) to ?0;entry f(?1,?1);entry g(?0);room 3;";

    private KeepingPromisesTest() { }

    public static void main(String[] args) {
        undoEach();
        undoOrder();
        undoKeepsForty();
        undoTermsGo();
        years();
        yearsByHand();
        yearsTooMuch();
        images();
        imagesOfStatus();
        Checks.end();
    }

    /** All that acts change, with the acts' number. */
    private static String state(TermBank bank) {
        StringBuilder text = new StringBuilder();
        for (int what = 0; what < 12; what++) {
            text.append(bank.count(what)).append(' ');
        }
        for (int v = 0; v < 8; v++) {
            text.append(bank.bound(v)).append(' ');
        }
        for (int i = 0; i < bank.count(2); i++) {
            text.append(bank.rule(i, 0)).append('>').append(bank.rule(i, 1)).append(' ');
        }
        for (int i = 0; i < bank.count(3); i++) {
            text.append(bank.entry(i)).append(' ');
        }
        for (int i = 0; i < bank.count(5); i++) {
            text.append(bank.memo(i, 0)).append('=').append(bank.memo(i, 1)).append(' ');
        }
        int last = bank.count(1) - 1;
        text.append(bank.term(last, 0)).append('/').append(bank.term(last, 1)).append('/').append(bank.term(last, 7));
        return text.toString();
    }

    private static void same(String what, String got, String want) {
        Checks.due(what + ": " + got + " for " + want, got.equals(want) ? 1 : 0, 1);
    }

    /** Each act in its turn behind the others, on objects of its own. */
    private static void undoEach() {
        Twins.asked("none to undo", () -> Checks.bankOf(BASE), TermBank::undo, -1);
        Twins.Call[] calls = {bank -> bank.variable(5), bank -> bank.variable(5), bank -> bank.make(1, 5, 5, 0), bank -> bank.bind(0, 2),
            bank -> bank.bind(0, 4), bank -> bank.apply(3), bank -> bank.bind(0, -1), bank -> bank.close(3), bank -> bank.unify(3, 8),
            bank -> bank.match(4, 5), bank -> bank.common(3, 8), bank -> bank.normal(5), bank -> bank.normal(5),
            bank -> bank.put(3, 3, 5), bank -> bank.rules(2, 1), bank -> bank.enter(3), bank -> bank.leave(8), bank -> bank.normal(3),
            bank -> bank.room(0), bank -> bank.room(0), bank -> bank.draw(99, 4)};
        for (int k = 0; k < calls.length; k++) {
            int turn = k;
            Twins.Build build = () -> {
                TermBank bank = Checks.bankOf(BASE);
                for (int before = 0; before < turn; before++) {
                    calls[before].of(bank);
                }
                return bank;
            };
            Twins.acted("act " + k, build, calls[k], calls[k].of(build.bank()));
        }
    }

    private static void undoOrder() {
        TermBank bank = Checks.bankOf(BASE);
        String[] states = new String[6];
        states[0] = state(bank);
        bank.normal(5);
        states[1] = state(bank);
        bank.unify(3, 8);
        states[2] = state(bank);
        bank.apply(8);
        states[3] = state(bank);
        bank.rules(2, 1);
        states[4] = state(bank);
        bank.normal(9);
        bank.normal(99);
        bank.unify(2, 3);
        Checks.due("refused calls are no acts", bank.count(11), 5);
        for (int k = 4; k >= 0; k--) {
            Checks.due("undo to " + k, bank.undo(), k);
            same("state " + k, state(bank), states[k]);
        }
        Checks.due("no more", bank.undo(), -1);
        same("state 0 still", state(bank), states[0]);
        Checks.due("undo is never refused", bank.count(14), 1);
    }

    private static void undoKeepsForty() {
        TermBank bank = Checks.bankOf(BASE);
        for (int k = 0; k < 45; k++) {
            bank.room(k % 10);
        }
        Checks.due("40 are kept", bank.count(11), 40);
        for (int k = 39; k >= 0; k--) {
            Checks.due("undo", bank.undo(), k);
            Checks.due("ROOM of then", bank.count(4), (k + 4) % 10);
        }
        Checks.due("the eldest five are gone", bank.undo(), -1);
        Checks.due("ROOM stays at the fifth's", bank.count(4), 4);
        bank.room(7);
        Checks.due("acts go on", bank.count(11), 1);
        Checks.due("undo", bank.undo(), 0);
    }

    private static void undoTermsGo() {
        TermBank bank = Checks.bankOf("symbol f 2 1;symbol g 1 1;");
        int x = bank.variable(0);
        int y = bank.variable(1);
        int xy = bank.make(0, x, y, 0);
        Checks.due("shapes", bank.count(8), 2);
        bank.undo();
        bank.undo();
        Checks.none("it is gone", () -> bank.term(xy, 0));
        Checks.due("another one has its number", bank.make(1, x, 0, 0), 1);
        Checks.due("?1 comes anew", bank.variable(1), 2);
        Checks.due("f(?0,?1) comes anew", bank.make(0, x, 2, 0), 3);
        Checks.due("once", bank.make(0, x, 2, 0), 3);
        Checks.due("shapes", bank.count(8), 3);
    }

    private static void years() {
        TermBank bank = Checks.bankOf(BASE);
        for (int wrong : WRONG) {
            Checks.none("what " + wrong, () -> bank.years(1, 1, wrong));
            Checks.illegal("n " + wrong, () -> bank.years(1, wrong, 0));
            Checks.none("what before n", () -> bank.years(1, wrong, wrong));
        }
        Checks.none("what 3", () -> bank.years(1, 1, 3));
        Checks.none("what 3, n 21", () -> bank.years(1, 21, 3));
        Checks.illegal("n 21", () -> bank.years(1, 21, 2));
        for (int what = 0; what < 3; what++) {
            Checks.due("no years", bank.years(1, 0, what), 0);
        }
        bank.normal(5);
        String before = state(bank);
        int status = bank.count(13) + bank.count(14) + bank.count(15) + bank.count(16);
        int lost = 0;
        for (int seed = 0; seed < 50; seed++) {
            int weight = bank.years(seed, 20, 0);
            int steps = bank.years(seed, 20, 2);
            Checks.due("weight is lost by steps", weight > 0 ? 1 : 0, steps > 0 ? 1 : 0);
            Checks.due("the same again", bank.years(seed, 20, 0), weight);
            lost += weight;
        }
        Checks.due("some weight was lost", lost > 0 ? 1 : 0, 1);
        same("all is as ever", state(bank), before);
        Checks.due("no STATUS", bank.count(13) + bank.count(14) + bank.count(15) + bank.count(16), status);
    }

    /** The same by draws and normal forms one by one; a drawn seed goes on, so one long run of draws is made by hand. */
    private static void yearsByHand() {
        for (int seed = 1; seed < 40; seed++) {
            TermBank bank = Checks.bankOf(BASE);
            int hits = bank.years(seed, 12, 1);
            int steps = bank.years(seed, 12, 2);
            int lost = bank.years(seed, 12, 0);
            int[] at = {seed};
            int weight = 0;
            for (int year = 0; year < 12; year++) {
                int term = drawn(bank, at, 3);
                weight += bank.term(term, 5) - bank.term(bank.normal(term), 5);
            }
            Checks.due("HITS of seed " + seed, hits, bank.count(6));
            Checks.due("STEPS of seed " + seed, steps, bank.count(7));
            Checks.due("WEIGHT of seed " + seed, lost, weight);
        }
        TermBank known = Checks.bankOf(BASE + "term g(?1);term g(?2);");
        known.normal(4);
        known.normal(known.count(1) - 3);
        known.normal(known.count(1) - 1);
        int more = 0;
        for (int seed = 0; seed < 60; seed++) {
            more += known.years(seed, 1, 1);
        }
        Checks.due("MEMO helps the years, too", more > 0 ? 1 : 0, 1);
    }

    private static int next(int[] seed, int n) {
        seed[0] = seed[0] * 1103515245 + 12345;
        return (seed[0] >> 16 & 0x7fff) % n;
    }

    private static int drawn(TermBank bank, int[] seed, int depth) {
        int eight = next(seed, 8);
        if (eight == 0 || depth == 1) {
            return bank.variable(next(seed, 3));
        }
        int symbol = next(seed, 3);
        int arity = bank.symbol(symbol, 1);
        int a = arity > 0 ? drawn(bank, seed, depth - 1) : 0;
        int b = arity > 1 ? drawn(bank, seed, depth - 1) : 0;
        return bank.make(symbol, a, b, 0);
    }

    private static void yearsTooMuch() {
        int none = 0;
        for (int seed = 0; seed < 60; seed++) {
            TermBank bank = Checks.bankOf("symbol a 3 1;symbol b 3 1;symbol c 3 1;symbol f 3 1;rule f(?0,?1,?2) to c(?0,?1,?2);"
                + "rule c(?0,?1,?2) to b(?0,?1,?2);rule b(?0,?1,?2) to a(?0,?1,?2);room 0;");
            int steps = bank.years(seed, 20, 2);
            int before = 0;
            for (int n = 0; n <= 20; n++) {
                int now = bank.years(seed, n, 2);
                boolean grows = before != -1 && now >= before && now <= 100;
                Checks.due("STEPS grow up to 100, then NONE", now == -1 || grows ? 1 : 0, 1);
                before = now;
            }
            if (steps == -1) {
                none++;
                Checks.due("NONE for weight", bank.years(seed, 20, 0), -1);
                Checks.due("NONE for HITS", bank.years(seed, 20, 1), -1);
            }
            Checks.due("no STATUS", bank.count(15), 0);
            Checks.due("no STEPS", bank.count(7), 0);
        }
        Checks.due("some are TOO MUCH, some aren't: " + none, none > 0 && none < 60 ? 1 : 0, 1);
    }

    private static void images() {
        TermBank bank = Checks.bankOf(BASE);
        Checks.due("no image", bank.restore() ? 1 : 0, 0);
        bank.normal(5);
        bank.bind(3, 4);
        bank.image();
        String first = state(bank);
        bank.undo();
        bank.undo();
        bank.rules(2, 1);
        bank.enter(3);
        bank.leave(8);
        bank.draw(5, 4);
        bank.room(9);
        bank.normal(3);
        Checks.due("restore", bank.restore() ? 1 : 0, 1);
        same("as the image", state(bank), first);
        Checks.due("terms are found again", bank.make(2, 0, 0, 0), 4);
        bank.undo();
        Checks.due("acts of the image", bank.undo(), 1);
        Checks.due("undone", bank.bound(3), -1);
        Checks.due("restore again", bank.restore() ? 1 : 0, 1);
        same("as the image again", state(bank), first);
        bank.variable(7);
        bank.image();
        String second = state(bank);
        bank.undo();
        bank.undo();
        bank.restore();
        same("in place of the other one", state(bank), second);
        Checks.feed(bank, "term ?0;");
        bank.restore();
        Checks.due("the tape is no part of it", bank.count(12), 20);
        bank.bank(8);
        Checks.due("gone by a bank", bank.restore() ? 1 : 0, 0);
    }

    private static void imagesOfStatus() {
        TermBank bank = Checks.bankOf(BASE);
        bank.variable(8);
        bank.unify(2, 3);
        bank.image();
        bank.variable(8);
        bank.unify(2, 3);
        Checks.told(bank, "!");
        Checks.due("STATUS 0", bank.count(13), 1);
        Checks.due("STATUS 1", bank.count(14), 2);
        Checks.due("STATUS 3", bank.count(16), 2);
        bank.restore();
        Checks.due("STATUS 0 of the image", bank.count(13), 0);
        Checks.due("STATUS 1 of the image", bank.count(14), 1);
        Checks.due("STATUS 3 of the image", bank.count(16), 1);
        Checks.due("the fault's place is no part of it", bank.fault(), 0);
    }
}
