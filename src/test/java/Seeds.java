/** Seeds of simulations whose first turns are known. */
final class Seeds {
    private static final long FACTOR = 6364136223846793005L;
    private static final long STEP = 1442695040888963407L;

    interface Wanted {
        boolean holds(int kind, int q);
    }

    private Seeds() {
    }

    static long next(long x) {
        return x * FACTOR + STEP;
    }

    static int turn(long x) {
        return (int) (x >>> 33);
    }

    /** The x before a step, from the x behind it. */
    private static long before(long x) {
        long inverse = FACTOR;
        for (int i = 0; i < 6; i++) {
            inverse *= 2 - FACTOR * inverse;
        }
        return (x - STEP) * inverse;
    }

    /** The first turn has this r % 16 and this q. */
    static long of(int kind, int q) {
        return before(16L * q + kind << 33);
    }

    /** The second turn is as it is wanted, too: the lower digits of x are free for that. */
    static long of(int kind, int q, Wanted second) {
        for (long low = 0; low < 1L << 33; low++) {
            long x = 16L * q + kind << 33 | low;
            int r = turn(next(x));
            if (second.holds(r % 16, r / 16)) {
                return before(x);
            }
        }
        throw new IllegalStateException("no such seed");
    }
}
