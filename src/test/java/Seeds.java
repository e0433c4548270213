/** "A seed becomes itself times 1103515245 and 12345 (an int that wraps); a DRAW of n is its bits 16 to 30 MOD n then." */
final class Seeds {
    private long seed;

    Seeds(int seed) {
        this.seed = seed;
    }

    /** By numbers that don't wrap: what is beyond 32 bits is taken away by hand. */
    int draw(int n) {
        seed = Math.floorMod(seed * 1103515245L + 12345L, 1L << 32);
        return (int) (seed / 65536 % 32768 % n);
    }

    /** The seed as an int. */
    int now() {
        return (int) seed;
    }

    /** The first seed, from 0 on, whose draws are these: of what, which, of what, which .. */
    static int of(int... draws) {
        for (int seed = 0; seed < 1000000; seed++) {
            Seeds drawn = new Seeds(seed);
            boolean fits = true;
            for (int k = 0; k < draws.length && fits; k += 2) {
                fits = drawn.draw(draws[k]) == draws[k + 1];
            }
            if (fits) {
                return seed;
            }
        }
        throw new IllegalStateException("no such seed");
    }
}
