/** Promises 1 to 5: a new object, feed, bank, fault, count. */
public final class TextPromisesTest {
    private static final String SYMBOLS = "symbol a 0 1;symbol f 2 2;symbol g 1 1;";

    private TextPromisesTest() { }

    public static void main(String[] args) {
        newObject();
        feed();
        bankTells();
        bankRefuses();
        bankKeepsAllOnFault();
        bankBeginsAnew();
        faultsOfTokens();
        faultsOfSymbols();
        faultsOfTerms();
        faultsOfRulesEntriesRoom();
        faultsOfTooMany();
        faultFirstAndLeast();
        counts();
        Checks.end();
    }

    private static void newObject() {
        TermBank bank = new TermBank();
        int[] due = {0, 0, 0, 0, 4, 0, 0, 0, 0, 0, -1, 0, 0, 0, 0, 0, 0};
        for (int what = 0; what < due.length; what++) {
            Checks.due("new count(" + what + ")", bank.count(what), due[what]);
        }
        Checks.due("new fault()", bank.fault(), -1);
        for (int v = 0; v < 8; v++) {
            Checks.due("new bound(" + v + ")", bank.bound(v), -1);
        }
        Checks.due("new undo()", bank.undo(), -1);
        Checks.due("new restore()", bank.restore() ? 1 : 0, 0);
        Checks.none("new symbol(0, 0)", () -> bank.symbol(0, 0));
        Checks.none("new term(0, 0)", () -> bank.term(0, 0));
        Checks.due("NONE", TermBank.NONE, -1);
    }

    private static void feed() {
        TermBank bank = new TermBank();
        for (int k = 1; k <= 35; k++) {
            Checks.due("feed no. " + k, bank.feed(k, -1, Integer.MIN_VALUE, Integer.MAX_VALUE, 0), 20 * k);
        }
        Checks.due("feed beyond 700", bank.feed(0, 0, 0, 0, 0), -1);
        Checks.due("tape stays at 700", bank.count(12), 700);
        TermBank order = new TermBank();
        order.feed(0x7465726d, 0x203f373b, 0x7465726d, 0x203f303b, 0xffffffff);
        Checks.due("highest byte first", order.bank(16), 0);
        Checks.due("first term is ?7", order.term(0, 1), 7);
        Checks.due("second term is ?0", order.term(1, 1), 0);
        order.feed(0x7465726d, 0x203f373b, 0xffffffff, 0, 0);
        Checks.due("a byte 255 is no token", order.bank(9), 1);
        Checks.due("fault at byte 255", order.fault(), 8);
    }

    private static void bankTells() {
        TermBank bank = Checks.bankOf(SYMBOLS + "term f(?0,g(a));rule g(g(?0)) to ?0;rule f(?0,a) to ?0;"
            + "entry f(?1,?1);entry g(?0);room 3;");
        int[] due = {3, 9, 2, 2, 3, 0, 0, 0, 8, 1, 10, 0, 0};
        for (int what = 0; what < due.length; what++) {
            Checks.due("told count(" + what + ")", bank.count(what), due[what]);
        }
        Checks.due("arguments come ahead: ?0", bank.term(0, 1), 0);
        Checks.due("then a, of g(a)", bank.term(1, 0), 0);
        Checks.due("then g(a)", bank.term(2, 0), 2);
        Checks.due("the term itself last", bank.term(3, 0), 1);
        TermBank loose = Checks.bankOf("\n symbol\na0 1\n;symbol f2\n2 ; term\n f ( ? 0 ,a ) ;\n");
        Checks.due("blanks count for nothing", loose.count(1), 3);
        TermBank digits = Checks.bankOf("symbol x 3 9;symbol z 0 1;room 0;term x(z,?7,z);");
        Checks.due("arity 3", digits.symbol(0, 1), 3);
        Checks.due("weight 9", digits.symbol(0, 2), 9);
        Checks.due("room 0", digits.count(4), 0);
        Checks.due("depth 6 is fine", Checks.told(digits, "symbol g 1 1;term g(g(g(g(g(?0)))));"), 0);
        Checks.due("depth 6", digits.term(5, 4), 6);
        Checks.due("like rules may both be told", Checks.told(digits, "symbol g 1 1;rule g(?0) to ?0;rule g(?0) to ?0;"), 0);
        Checks.due("two rules", digits.count(2), 2);
    }

    private static void bankRefuses() {
        TermBank bank = Checks.bankOf("term ?3;");
        Checks.feed(bank, "term ?4;");
        Checks.illegal("bank(-1)", () -> bank.bank(-1));
        Checks.illegal("bank(21)", () -> bank.bank(21));
        Checks.illegal("bank(MIN)", () -> bank.bank(Integer.MIN_VALUE));
        Checks.illegal("bank(MAX)", () -> bank.bank(Integer.MAX_VALUE));
        Checks.due("the tape stays", bank.count(12), 20);
        Checks.due("STATUS stays", bank.count(13), 0);
        Checks.due("terms stay", bank.term(0, 1), 3);
        Checks.due("then it is read", bank.bank(8), 0);
        Checks.due("the tape is empty", bank.count(12), 0);
        Checks.due("the new term", bank.term(0, 1), 4);
        Checks.due("bank(0) of an empty tape", bank.bank(0), 0);
        Checks.due("no terms", bank.count(1), 0);
    }

    private static void bankKeepsAllOnFault() {
        TermBank bank = Checks.bankOf(SYMBOLS + "term g(a);rule g(g(?0)) to ?0;entry g(?0);room 2;");
        bank.bind(5, 1);
        bank.normal(1);
        bank.image();
        bank.variable(6);
        int[] before = counts(bank);
        Checks.due("fault", Checks.told(bank, "symbol z 0 1;term z;rule z to ?0;"), 5);
        before[13]++;
        int[] after = counts(bank);
        for (int what = 0; what < 17; what++) {
            Checks.due("count(" + what + ") behind a fault", after[what], before[what]);
        }
        Checks.due("symbol stays", bank.symbol(1, 0), 'f');
        Checks.due("binding stays", bank.bound(5), 1);
        Checks.due("memo stays", bank.memo(1, 0), 1);
        Checks.due("a term made again is there", bank.make(2, 0, 0, 0), 1);
        Checks.due("acts stay", bank.undo(), 3);
        Checks.due("image stays", bank.restore() ? 1 : 0, 1);
        Checks.due("the image has its STATUS", bank.count(13), 0);
        Checks.due("the tape was emptied", bank.count(12), 0);
    }

    private static void bankBeginsAnew() {
        TermBank bank = Checks.bankOf(SYMBOLS + "term g(a);rule g(g(?0)) to ?0;entry g(?0);room 2;");
        bank.bind(5, 1);
        bank.normal(1);
        bank.normal(1);
        bank.image();
        bank.variable(9);
        Checks.due("a new bank", Checks.told(bank, "symbol q 0 4;term q;"), 0);
        int[] due = {1, 1, 0, 0, 4, 0, 0, 0, 1, 0, -1, 0, 0};
        for (int what = 0; what < due.length; what++) {
            Checks.due("anew count(" + what + ")", bank.count(what), due[what]);
        }
        Checks.due("refused calls are still told", bank.count(14), 1);
        Checks.due("no binding", bank.bound(5), -1);
        Checks.due("no acts", bank.undo(), -1);
        Checks.due("no image", bank.restore() ? 1 : 0, 0);
        Checks.due("no fault", bank.fault(), -1);
        Checks.due("symbol", bank.symbol(0, 0), 'q');
        Checks.none("old symbols are gone", () -> bank.symbol(1, 0));
    }

    private static int[] counts(TermBank bank) {
        int[] all = new int[17];
        for (int what = 0; what < 17; what++) {
            all[what] = bank.count(what);
        }
        return all;
    }

    private static void faulty(String text, int code, int place) {
        TermBank bank = new TermBank();
        Checks.due("bank of '" + text + "'", Checks.told(bank, text), code);
        Checks.due("fault of '" + text + "'", bank.fault(), place);
        Checks.due("STATUS 0 of '" + text + "'", bank.count(13), 1);
        Checks.due("no symbols by '" + text + "'", bank.count(0), 0);
    }

    private static void faultsOfTokens() {
        faulty("foo;", 1, 0);
        faulty(" \n;", 1, 2);
        faulty("5", 1, 0);
        faulty("Term ?0;", 1, 0);
        faulty("terms ?0;", 1, 0);
        faulty("germ ?0;", 1, 0);
        faulty("zymbol a 0 1;", 1, 0);
        faulty("mule ?0 to ?0;", 1, 0);
        faulty("intry ?0;", 1, 0);
        faulty("boom 3;", 1, 0);
        faulty("symbol f 1 1;rule f(?0) do ?0;", 1, 24);
        faulty("ter m ?0;", 1, 0);
        faulty("term\t?0;", 1, 4);
        faulty("term ?0", 1, 7);
        faulty("term ?0  ", 1, 9);
        faulty("term", 1, 4);
        faulty("term ?0;;", 1, 8);
        faulty("term ?0 ?0;", 1, 8);
        faulty("term ?0;!", 1, 8);
        faulty("term {;", 1, 5);
        faulty("term `;", 1, 5);
        faulty("room/3;", 1, 4);
        faulty("room :;", 1, 5);
    }

    private static void faultsOfSymbols() {
        faulty("symbol", 1, 6);
        faulty("symbol a", 1, 8);
        faulty("symbol 1 0 1;", 1, 7);
        faulty("symbol ab 0 1;", 2, 7);
        faulty("symbol a b 1;", 1, 9);
        faulty("symbol a 4 1;", 2, 9);
        faulty("symbol a 00 1;", 2, 9);
        faulty("symbol a 0 0;", 2, 11);
        faulty("symbol a 0 10;", 2, 11);
        faulty("symbol a 01;", 2, 9);
        faulty("symbol a 0 ;", 1, 11);
        faulty("symbol a 0 1 2;", 1, 13);
        faulty("symbol a 0 1;symbol a 1 1;", 4, 20);
        faulty("symbol a 0 1;symbol aa 1 1;", 2, 20);
    }

    private static void faultsOfTerms() {
        faulty("term b;", 3, 5);
        faulty("term bb;", 2, 5);
        faulty("term to;", 2, 5);
        faulty("term ?8;", 2, 6);
        faulty("term ?9;", 2, 6);
        faulty("term ?00;", 2, 6);
        faulty("term ?;", 1, 6);
        faulty("term ?a;", 1, 6);
        faulty("term ??0;", 1, 6);
        faulty("term 5;", 1, 5);
        faulty("term (;", 1, 5);
        String f = "symbol f 2 1;symbol a 0 1;";
        faulty(f + "term f;", 1, 32);
        faulty(f + "term f(a);", 1, 34);
        faulty(f + "term f(a,a,a);", 1, 36);
        faulty(f + "term f(a,);", 1, 35);
        faulty(f + "term f(,a);", 1, 33);
        faulty(f + "term f a,a);", 1, 33);
        faulty(f + "term a(a);", 1, 32);
        faulty(f + "term f(a,a;", 1, 36);
        faulty(f + "term f(a,a", 1, 36);
        faulty(f + "term f(a,b);", 3, 35);
    }

    private static void faultsOfRulesEntriesRoom() {
        String f = "symbol f 1 1;";
        faulty(f + "rule ?0 to ?0;", 5, 26);
        faulty(f + "rule f(?0) ?0;", 1, 24);
        faulty(f + "rule f(?0) too ?0;", 1, 24);
        faulty(f + "rule f(?0) to ?1;", 5, 29);
        faulty(f + "rule f(?0) to f(?0);", 5, 32);
        faulty(f + "rule f(?0) to ?0", 1, 29);
        faulty(f + "rule f(?0) to ?1,", 1, 29);
        faulty("symbol f 3 1;rule f(f(?0,?0,?0),f(?0,?0,?0),f(?0,?0,?0)) to ?0;", 5, 62);
        faulty("entry ?0;entry ?0;", 5, 17);
        faulty("entry ?0;entry ?0)", 1, 17);
        faulty("room 10;", 2, 5);
        faulty("room ?;", 1, 5);
        faulty("room 3 3;", 1, 7);
        faulty("room 3;room 3;", 4, 7);
        faulty("room 3;room", 4, 7);
        TermBank twelve = new TermBank();
        Checks.due("a rule of size 12", Checks.told(twelve,
            "symbol f 3 1;symbol g 1 1;rule g(g(f(f(?0,?0,?0),f(?0,?0,?0),?0))) to ?0;"), 0);
        Checks.due("12 it is", twelve.term(twelve.rule(0, 0), 2), 12);
    }

    private static void faultsOfTooMany() {
        StringBuilder symbols = new StringBuilder();
        for (char c = 'a'; c < 'k'; c++) {
            symbols.append("symbol ").append(c).append(" 0 1;");
        }
        Checks.due("10 symbols", Checks.bankOf(symbols.toString()).count(0), 10);
        faulty(symbols + "symbol k 0 1;", 2, 130);
        faulty(symbols + "symbol", 2, 130);
        StringBuilder rules = new StringBuilder("symbol f 1 1;");
        for (int k = 0; k < 8; k++) {
            rules.append("rule f(?").append(k).append(") to ?").append(k).append(';');
        }
        Checks.due("8 rules", Checks.bankOf(rules.toString()).count(2), 8);
        faulty(rules + "rule f(?0) to ?0;", 2, rules.length());
        faulty(rules + "rule 5", 2, rules.length());
        StringBuilder entries = new StringBuilder("symbol f 1 1;");
        for (int k = 0; k < 12; k++) {
            entries.append(k < 8 ? "entry ?" + k + ";" : "entry f(?" + (k - 8) + ");");
        }
        Checks.due("12 entries", Checks.bankOf(entries.toString()).count(3), 12);
        faulty(entries + "entry f(?7);", 2, entries.length());
        faulty(entries + "entry ?0;", 2, entries.length());
        String g = "symbol g 1 1;symbol a 0 1;";
        faulty(g + "term g(g(g(g(g(g(?0))))));", 2, 43);
        faulty(g + "term g(g(g(g(g(g(a))))));", 2, 43);
        faulty(g + "term g(g(g(g(g(g(z))))));", 2, 43);
        faulty(g + "entry g(g(g(g(g(g(a))))));", 2, 44);
        faulty(g + "rule g(g(g(g(g(g(a)))))) to a;", 2, 43);
        faulty(g + "rule g(a) to g(g(g(g(g(g(a))))));", 2, 51);
        Checks.due("depth 6 of entries and rules", Checks.bankOf("symbol g 1 1;symbol a 0 1;entry g(g(g(g(g(a)))));"
            + "rule g(g(g(g(g(a))))) to a;symbol f 1 2;rule f(f(f(f(f(a))))) to g(g(g(g(g(a)))));").count(2), 2);
        faulty(g + "term g(g(g(g(g(g(", 1, 43);
        faulty(g + "term g(g(g(g(g(g(?9", 2, 43);
    }

    private static void faultFirstAndLeast() {
        faulty("term b;term ?9;!", 3, 5);
        faulty("symbol a 0 1;symbol a 9 9;", 4, 20);
        TermBank bank = new TermBank();
        Checks.told(bank, "term b;");
        Checks.due("the place of the fault", bank.fault(), 5);
        Checks.illegal("bank(1)", () -> bank.bank(1));
        Checks.due("it stays behind an exception", bank.fault(), 5);
        Checks.told(bank, "!");
        Checks.due("the latest one's", bank.fault(), 0);
        Checks.told(bank, "term ?0;");
        Checks.due("none without", bank.fault(), -1);
        Checks.due("two texts with a fault", bank.count(13), 2);
    }

    private static void counts() {
        TermBank bank = Checks.bankOf("symbol a 0 1;symbol b 0 1;symbol f 2 1;rule f(f(?0,?1),?2) to f(?0,f(?1,?2));"
            + "rule f(a,?0) to ?0;rule b to a;term f(?3,?4);");
        for (int what : new int[] {-1, 17, 18, Integer.MIN_VALUE, Integer.MAX_VALUE}) {
            Checks.none("count(" + what + ")", () -> bank.count(what));
        }
        Checks.due("symbols", bank.count(0), 3);
        Checks.due("terms", bank.count(1), 13);
        Checks.due("rules", bank.count(2), 3);
        // ? ; f(?,?) ; f(f(?,?),?) ; f(?,f(?,?)) ; a ; f(a,?) ; b
        Checks.due("shapes", bank.count(8), 7);
        // Rule 0 at place 1 with 0 and with 1; f(f(..),..) and f(a,..) clash, and a left side meets itself only inside.
        Checks.due("meetings", bank.count(9), 2);
        Checks.due("the first", bank.count(10), 10);
        bank.variable(8);
        bank.variable(0);
        bank.close(99);
        bank.unify(bank.make(0, 0, 0, 0), bank.make(1, 0, 0, 0));
        Checks.due("acts kept", bank.count(11), 3);
        Checks.due("STATUS 1", bank.count(14), 2);
        Checks.due("STATUS 3", bank.count(16), 1);
        Checks.feed(bank, "x");
        Checks.due("tape", bank.count(12), 20);
        meetingsFar();
    }

    private static void meetingsFar() {
        // Rule 0 meets nothing; rule 1 holds rule 0's left side at place 2; like rules meet at place 0.
        TermBank bank = Checks.bankOf("symbol a 0 1;symbol b 0 1;symbol f 2 1;symbol g 1 1;"
            + "rule g(b) to g(a);rule f(a,g(?0)) to a;rule f(?0,g(b)) to ?0;");
        // 1@0 with 2, 1@2 with 0, 2@0 with 1, 2@2 with 0.
        Checks.due("meetings of three", bank.count(9), 4);
        Checks.due("the first of three", bank.count(10), 1002);
        bank.rules(bank.rule(0, 0), bank.rule(0, 1));
        Checks.due("a rule twice meets at 0", bank.count(9), 8);
        Checks.due("the first one then", bank.count(10), 3);
    }
}
