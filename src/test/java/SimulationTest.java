/** Promise 29; ModelTest compares many more simulations with the plain model. */
public final class SimulationTest {
    private static final long FACTOR = 6364136223846793005L;
    private static final long STEP = 1442695040888963407L;

    public static void main(String[] args) {
        wholeRuns();
        eachKindOfTurn();
        seeds();
        refuses();
        changesNothing();
        Checks.finish("SimulationTest");
    }

    private static void wholeRuns() {
        FrostTubes x = Looks.threeLayers();
        Checks.is("P29: winter alone: three layers, three cells, a site", 30031, x.simulate(seedFor(6, 0), 1));
        Checks.is("P29: site()", 30032, x.simulate(seedFor(0, 5), 1));
        FrostTubes full = new FrostTubes();
        for (int s = 0; s < 4; s++) {
            full.site();
        }
        Checks.is("P29: a fifth is left out", 4, full.simulate(seedFor(0, 5), 1));
    }

    /** The seed with which the first turn has this r % 16 and this q. */
    private static long seedFor(int kind, long q) {
        long x = q * 16 + kind << 33;
        long inverse = FACTOR;
        for (int i = 0; i < 6; i++) {
            inverse *= 2 - FACTOR * inverse;
        }
        return (x - STEP) * inverse;
    }

    private static void turn(String what, int due, FrostTubes x, int kind, long q) {
        Checks.is("P29: " + what, due, x.simulate(seedFor(kind, q), 1));
    }

    private static void eachKindOfTurn() {
        FrostTubes x = Looks.threeLayers();
        for (int kind = 7; kind < 12; kind++) {
            turn("-30 degrees, no snow, one day", 10061, x, kind, 30);
            turn("-5 degrees", 20041, x, kind, 5);
            turn("31 is 0 degrees", 30031, x, kind, 31);
            // q / 32 is 3: 50 / 13 are too little to freeze cell 1.
            turn("-5 degrees and 3 of snow", 30031, x, kind, 98);
        }
        turn("six days of -5: 5 + 7 + 9 freeze 1, 3 and 5, and 9 are too little for 6", 10061, x, 7, 656);
        for (int kind = 12; kind < 16; kind++) {
            turn("3 degrees thaw 0", 20021, x, kind, 3);
            turn("15 degrees thaw all", 1, x, kind, 15);
            turn("0 degrees", 30031, x, kind, 16);
            turn("two days of 3", 20021, x, kind, 3 + 16);
            turn("four days of 3: 12 thaw 0 and 2", 10011, x, kind, 3 + 48);
            turn("64 is one day again", 20021, x, kind, 3 + 64);
        }
        turn("a tube", 30031, x, 1, 0);
        turn("a tube at no site", 30031, x, 1, 1);
        turn("a pipe", 30031, x, 2, 4);
        turn("a pipe in frost", 30031, x, 2, 0);
        turn("a fence", 30031, x, 3, 80);
        turn("a setting out of its range", 30031, x, 5, 1);
        x.days(0, 30, 1);
        turn("under snow 300 / 40 freeze cell 1", 20041, x, 7, 30);
        turn("under snow 50 / 40 freeze nothing", 30031, x, 7, 5);
    }

    private static void seeds() {
        FrostTubes x = new FrostTubes();
        PlainModel model = new PlainModel();
        long[] seeds = {0, 1, -1, Long.MIN_VALUE, Long.MAX_VALUE, 1L << 33, 99};
        for (long seed : seeds) {
            for (int m = 1; m <= 60; m++) {
                Checks.is("P29: simulate(" + seed + ", " + m + ")", model.simulate(seed, m), x.simulate(seed, m));
            }
        }
        FrostTubes old = Looks.threeLayers();
        for (int i = 0; i < 166; i++) {
            old.days(0, 0, 60);
        }
        old.days(0, 0, 34);
        Checks.is("P29: days beyond 9999 are left out", 30031, old.simulate(seedFor(7, 30), 1));
        Checks.is("P29: and turns behind them are not", 30032, old.simulate(seedFor(0, 0), 1));
    }

    private static void refuses() {
        FrostTubes x = Looks.threeLayers();
        Checks.refuses("P29: m 0", Checks.ARGUMENT, () -> x.simulate(1, 0));
        Checks.refuses("P29: m 61", Checks.ARGUMENT, () -> x.simulate(1, 61));
        Checks.refuses("P29: m -1", Checks.ARGUMENT, () -> x.simulate(1, -1));
        Checks.refusesAndChangesNothing("P29: m 61", Checks.ARGUMENT, () -> Looks.threeLayers(),
                y -> y.simulate(1, 61));
    }

    private static void changesNothing() {
        for (int seed = 0; seed < 20; seed++) {
            long s = seed;
            Checks.changesNothing("P29: simulate(" + s + ", 60)", () -> Looks.threeLayers(), x -> x.simulate(s, 60));
        }
    }
}
