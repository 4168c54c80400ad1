/** The boundary cases of promise 29, sentence by sentence. */
public final class SimulationEdgesTest {
    public static void main(String[] args) {
        Checks.sentence("P29", "Simulates m turns on a copy of the state.", SimulationEdgesTest::onACopy);
        Checks.sentence("P29", "A long x starts as the seed.", SimulationEdgesTest::anySeed);
        Checks.sentence("P29", "x * 6364136223846793005L + 1442695040888963407L (with long overflow)",
                SimulationEdgesTest::overflow);
        Checks.sentence("P29", "r = (int) (x >>> 33) is computed", SimulationEdgesTest::neverNegative);
        Checks.sentence("P29", "0: site().", SimulationEdgesTest::sites);
        Checks.sentence("P29", "1: tube(q % 4, 1 + q / 4 % 30).", SimulationEdgesTest::tubes);
        Checks.sentence("P29", "2: pipe(q % 4, q / 4 % 30).", SimulationEdgesTest::pipes);
        Checks.sentence("P29", "3: fence(q % 4, q / 4 % 21).", SimulationEdgesTest::fences);
        Checks.sentence("P29", "4: shovel(q % 4).", SimulationEdgesTest::shovels);
        Checks.sentence("P29", "5: set(q % 3, q / 4 % 31).", SimulationEdgesTest::settings);
        Checks.sentence("P29", "6: winter().", SimulationEdgesTest::winters);
        Checks.sentence("P29", "7 to 11: days(-(q % 31), q / 32 % 4, 1 + q / 128 % 6).", SimulationEdgesTest::coldDays);
        Checks.sentence("P29", "Otherwise: days(q % 16, 0, 1 + q / 16 % 4).", SimulationEdgesTest::warmDays);
        Checks.sentence("P29", "What would throw an exception is left out.", SimulationEdgesTest::leftOut);
        Checks.sentence("P29", "number of turns, 1 to 60", SimulationEdgesTest::turns);
        Checks.sentence("P29", "Returns 10000 * (the layers of all sites at the end) + 10 * (the frozen cells of "
                + "all sites at the end) + (the sites at the end).", SimulationEdgesTest::answers);
        Checks.sentence("P29", "if m is out of range", SimulationEdgesTest::refused);
        Checks.finish("SimulationEdgesTest");
    }

    private static void turn(int due, FrostTubes x, int kind, int q) {
        Checks.is("turn " + kind + ", q " + q, due, x.simulate(Seeds.of(kind, q), 1));
    }

    /** A turn, and then one day of -30 with so much new snow. */
    private static void coldBehind(int due, FrostTubes x, int kind, int q, int snow) {
        long seed = Seeds.of(kind, q, (k, p) -> k >= 7 && k <= 11 && p % 31 == 30 && p / 32 % 4 == snow
                && p / 128 % 6 == 0);
        Checks.is("turn " + kind + ", q " + q + ", a cold day", due, x.simulate(seed, 2));
    }

    private static void onACopy() {
        for (long seed = 0; seed < 30; seed++) {
            long s = seed;
            Checks.changesNothing("seed " + s, Grounds::half, x -> x.simulate(s, 60));
        }
        Checks.changesNothing("a full object", Grounds::full, x -> x.simulate(7, 60));
        FrostTubes x = Grounds.bare(1);
        turn(2, x, 0, 0);
        turn(2, x, 0, 0);
    }

    private static void anySeed() {
        FrostTubes x = Looks.threeLayers();
        PlainModel model = PlainModel.threeLayers();
        long[] seeds = {0, 1, -1, Long.MIN_VALUE, Long.MAX_VALUE, Integer.MIN_VALUE, Integer.MAX_VALUE, 1L << 32};
        for (long seed : seeds) {
            for (int m = 1; m <= 60; m++) {
                Checks.is("simulate(" + seed + ", " + m + ")", model.simulate(seed, m), x.simulate(seed, m));
            }
        }
    }

    /** How many of the first turns are such that add a site, by a plain run of x. */
    private static int sitesAdded(long seed, int m) {
        long x = seed;
        int sites = 0;
        for (int i = 0; i < m; i++) {
            x = Seeds.next(x);
            sites += Seeds.turn(x) % 16 == 0 ? 1 : 0;
        }
        return Math.min(4, sites);
    }

    private static void overflow() {
        FrostTubes none = Grounds.bare(0);
        for (long seed = -50; seed < 50; seed++) {
            Checks.is("sites of seed " + seed, sitesAdded(seed, 20), none.simulate(seed, 20) % 10);
        }
        FrostTubes x = Looks.threeLayers();
        // r is 167951807: days(11, 0, 2); then 218396424: days(-11, 3, 1).
        Checks.is("seed 0: 15 of 22 thaw all", 1, x.simulate(0, 1));
        Checks.is("seed 0: 110 / 13 freeze cell 0", 10011, x.simulate(0, 2));
        // r is 1574552488: days(-30, 1, 3); then 1490332343: days(-9, 1, 4).
        Checks.is("seed -1: 27, 25 and 23 of cold", 10101, x.simulate(-1, 1));
        Checks.is("seed -1: 6, 6, 5 and 5 of cold", 10121, x.simulate(-1, 2));
    }

    /** With x below 0 the sign must not come into r: x >> 33 would be negative, and no turn would be one of 0 to 15. */
    private static void neverNegative() {
        FrostTubes x = Grounds.bare(1);
        int highest = Integer.MAX_VALUE / 16;
        for (int q = highest; q > highest - 31; q--) {
            int cold = q % 31;
            int snow = q / 32 % 4;
            int days = 1 + q / 128 % 6;
            FrostTubes y = Grounds.bare(1);
            int frozen = y.days(-cold, snow, days);
            turn((frozen > 0 ? 10001 : 1) + 10 * frozen, x, 7, q);
        }
        turn(2, x, 0, highest);
    }

    private static void sites() {
        FrostTubes x = Grounds.bare(0);
        turn(1, x, 0, 0);
        for (int s = 1; s <= 4; s++) {
            x.site();
            turn(Math.min(4, s + 1), x, 0, s);
        }
    }

    private static void tubes() {
        for (int q = 0; q < 240; q++) {
            turn(10054, Grounds.freeze(four(), 30), 1, q);
        }
        turn(1, Grounds.bare(1), 1, 3);
    }

    /** Four sites, of which three lie under so much snow that a cold day does nothing to them. */
    private static FrostTubes four() {
        FrostTubes x = Grounds.bare(4);
        x.days(0, 30, 4);
        x.shovel(0);
        return x;
    }

    private static void pipes() {
        FrostTubes x = Grounds.freeze(four(), 30);
        for (int q = 0; q < 240; q++) {
            turn(10054, x, 2, q);
        }
        turn(1, Grounds.bare(1), 2, 119);
        turn(0, Grounds.bare(0), 2, 0);
    }

    /** 3 of new snow and a fence of 3 or more: 300 / 16 are 18 and freeze three; without it 300 / 13 freeze four. */
    private static void fences() {
        FrostTubes x = four();
        coldBehind(10044, x, 3, 0, 3);
        coldBehind(10034, x, 3, 4 * 3, 3);
        coldBehind(10034, x, 3, 4 * 20, 3);
        coldBehind(10044, x, 3, 4 * 21, 3);
        coldBehind(10034, x, 3, 4 * 24, 3);
        coldBehind(10044, x, 3, 4 * 20 + 1, 3);
        coldBehind(10044, x, 3, 4 * 20 + 3, 3);
    }

    private static void shovels() {
        FrostTubes x = Grounds.bare(4);
        x.days(0, 30, 4);
        for (int q = 0; q < 8; q++) {
            coldBehind(10054, x, 4, q, 0);
        }
        FrostTubes three = Grounds.bare(3);
        three.days(0, 30, 4);
        coldBehind(10053, three, 4, 2, 0);
        coldBehind(3, three, 4, 3, 0);
    }

    /** With setting 0 at 1 the day's last cell thaws; with setting 0 at 30 day 30 is the next on which one thaws. */
    private static void settings() {
        Checks.is("q % 3 is 0 and q / 4 % 31 is 6: not on day 1", 10051, settingZero(6));
        Checks.is("1: on each day", 10041, settingZero(1));
        Checks.is("30: not on day 1", 10051, settingZero(30));
        Checks.is("31 is 0: never", 10051, settingZero(31));
        Checks.is("32 is 1", 10041, settingZero(32));
        FrostTubes late = Grounds.onDay(29);
        Checks.is("30: on day 30", 10041, late.simulate(coldSeed(30), 2));
        Checks.is("31 is 0: not on day 30", 10051, late.simulate(coldSeed(31), 2));
        FrostTubes other = Grounds.bare(1);
        coldBehind(10051, other, 5, 4, 0);
        coldBehind(10051, other, 5, 5, 0);
    }

    /** The seed of set(0, v) and a day of -30. */
    private static long coldSeed(int v) {
        int q = 4 * v;
        while (q % 3 != 0) {
            q++;
        }
        return Seeds.of(5, q, (k, p) -> k >= 7 && k <= 11 && p % 31 == 30 && p / 32 % 4 == 0 && p / 128 % 6 == 0);
    }

    private static int settingZero(int v) {
        return Grounds.bare(1).simulate(coldSeed(v), 2);
    }

    private static void winters() {
        FrostTubes x = Looks.threeLayers();
        for (int q = 0; q < 40; q++) {
            turn(30031, x, 6, q);
        }
        turn(0, Grounds.bare(0), 6, 0);
    }

    private static void coldDays() {
        FrostTubes x = Grounds.bare(1);
        for (int kind = 7; kind <= 11; kind++) {
            turn(10051, x, kind, 30);
            turn(1, x, kind, 31);
            turn(1, x, kind, 3);
            turn(10011, x, kind, 4);
            // q is 31 * k + 30, and q / 32 % 4 is the snow: 300 / 11, 300 / 12 and 300 / 13.
            turn(10041, x, kind, 61);
            turn(10041, x, kind, 92);
            turn(10041, x, kind, 123);
            // q / 128 is 1, 5 and 6: two days, six days, and one day again.
            turn(10081, x, kind, 154);
            turn(10151, x, kind, 650);
            turn(10051, x, kind, 774);
        }
    }

    private static void warmDays() {
        FrostTubes x = Grounds.freeze(Grounds.bare(1), 30);
        for (int kind = 12; kind <= 15; kind++) {
            turn(10051, x, kind, 0);
            turn(10051, x, kind, 2);
            turn(10041, x, kind, 3);
            turn(10021, x, kind, 15);
            turn(10051, x, kind, 16);
            turn(1, x, kind, 15 + 16);
            turn(10021, x, kind, 3 + 16 * 3);
            turn(10041, x, kind, 3 + 16 * 4);
        }
    }

    private static void leftOut() {
        FrostTubes full = Grounds.full();
        int as = 10000 * full.about(5) + 10 * full.about(4) + 4;
        turn(as, full, 0, 0);
        turn(as, full, 1, 0);
        turn(as, full, 2, 4 * 29);
        FrostTubes none = Grounds.bare(0);
        for (int kind = 1; kind <= 4; kind++) {
            turn(0, none, kind, 0);
        }
        FrostTubes one = Grounds.bare(1);
        coldBehind(10051, one, 5, 40, 0);
        coldBehind(10051, one, 3, 4 * 20 + 1, 0);
        FrostTubes late = Grounds.onDay(9998);
        turn(10051, late, 7, 30);
        turn(1, late, 7, 30 + 31 * 128);
        Checks.is("the turns behind it are done", 2, late.simulate(
                Seeds.of(7, 30 + 31 * 128, (k, p) -> k == 0), 2));
    }

    /** The first seed whose sixtieth turn is the first that adds a site. */
    private static long lateSite() {
        for (long seed = 0; seed < 1000000; seed++) {
            if (sitesAdded(seed, 59) == 0 && sitesAdded(seed, 60) == 1) {
                return seed;
            }
        }
        throw new IllegalStateException("no such seed");
    }

    private static void turns() {
        FrostTubes x = Grounds.bare(0);
        long seed = lateSite();
        Checks.is("59 turns", 0, x.simulate(seed, 59));
        Checks.is("60 turns", 1, x.simulate(seed, 60));
        Checks.is("one turn", 1, x.simulate(Seeds.of(0, 0), 1));
        Checks.is("one turn, and not a second one", 1, x.simulate(Seeds.of(0, 0, (k, p) -> k == 0), 1));
        Checks.is("two turns", 2, x.simulate(Seeds.of(0, 0, (k, p) -> k == 0), 2));
    }

    private static void answers() {
        turn(0, Grounds.bare(0), 6, 0);
        turn(4, Grounds.bare(4), 6, 0);
        turn(150151, Grounds.mostLayers(), 6, 0);
        turn(10301, Grounds.allFrozen(), 6, 0);
        turn(41204, Grounds.freeze(Grounds.bare(4), Grounds.COLD_TO[29]), 6, 0);
    }

    private static void refused() {
        for (int m : new int[] {0, 61, -1, Integer.MIN_VALUE, Integer.MAX_VALUE}) {
            Checks.refusesAndChangesNothing("m " + m, Checks.ARGUMENT, Grounds::half, x -> x.simulate(1, m));
            Checks.refuses("m " + m + " without sites", Checks.ARGUMENT, () -> new FrostTubes().simulate(-1, m));
        }
    }
}
