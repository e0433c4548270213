/** Banks near the greatest number of terms, made by few calls: an object is promised 512. */
final class Great {
    static final int A = 0;
    static final int G = 2;
    static final int P = 3;
    static final int R = 5;
    static final int S = 6;
    /** The first twelve terms are those of f(..), with ?0 alone in them; these numbers are told by the text. */
    static final int ZERO = 0;
    static final int GZ = 2;
    static final int FZ = 3;
    static final int TOP = 11;
    static final int SZ = 12;
    static final int ONE = 13;
    static final int S1 = 14;
    static final int SS1 = 15;
    static final int THREE = 16;
    static final int PAIR = 17;
    static final int CONSTANT = 19;
    static final int MADE = 20;
    static final int SAB = 23;
    static final int SBA = 25;

    private static final String TEXT = "symbol a 0 1;symbol b 0 1;symbol g 1 1;symbol p 2 1;symbol f 3 1;symbol r 1 1;symbol s 1 9;"
        + "term f(f(f(?0,?0,?0),f(?0,?0,g(?0)),f(?0,g(?0),?0)),f(f(g(?0),?0,?0),f(g(?0),g(?0),?0),f(?0,g(?0),g(?0))),"
        + "f(g(?0),?0,g(?0)));rule s(?0) to g(?0);term s(s(?1));term p(?0,?3);term p(r(?3),a);term s(p(a,b));term s(p(b,a));"
        + "entry ?0;room 4;";

    private Great() { }

    /** A bank of n terms (30 to 400), in which ?2 and ?7 are not, and neither are g(?1), g(a), r(a), s(p(?0,?1)). */
    static TermBank of(int n) {
        TermBank bank = new TermBank();
        Checks.due("the great text", Checks.told(bank, TEXT), 0);
        int[] leaves = {ZERO, ONE, THREE, CONSTANT, bank.variable(4), bank.variable(5), bank.variable(6)};
        for (int k = 0; k < 49 && bank.count(1) + 12 <= n; k++) {
            int pair = bank.make(P, leaves[k / 7], leaves[k % 7], 0);
            bank.bind(0, pair);
            bank.apply(TOP);
        }
        bank.bind(0, -1);
        for (int k = 0; k < TOP && bank.count(1) < n; k++) {
            bank.make(R, k, 0, 0);
        }
        Checks.due("terms of the great bank", bank.count(1), n);
        return bank;
    }
}
