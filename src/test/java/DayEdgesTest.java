/** The boundary cases of the section A DAY, sentence by sentence. */
public final class DayEdgesTest {
    public static void main(String[] args) {
        Checks.sentence("A DAY", "A day has a temperature t, -30 to 30", DayEdgesTest::temperatures);
        Checks.sentence("A DAY", "and new snow s, 0 to 30", DayEdgesTest::newSnow);
        Checks.sentence("A DAY", "The days (0 at first) become 1 more.", DayEdgesTest::oneDayMore);
        Checks.sentence("A DAY", "Its snow becomes more by s, and by the lesser one of s and the height of its fence",
                DayEdgesTest::caughtSnow);
        Checks.sentence("A DAY", "but at most 99", DayEdgesTest::mostSnow);
        Checks.sentence("A DAY", "t times setting 1 of its snow melts, or all, if there is less",
                DayEdgesTest::melting);
        Checks.sentence("A DAY", "the warmth of the day is t less m / setting 1", DayEdgesTest::warmthBesideMelting);
        Checks.sentence("A DAY", "but 0 if any snow is left", DayEdgesTest::noWarmthUnderSnow);
        Checks.sentence("A DAY", "This is stored with the warmth that is stored", DayEdgesTest::warmthAddsUp);
        Checks.sentence("A DAY", "and no cold is stored any more", DayEdgesTest::noColdAnyMore);
        Checks.sentence("A DAY", "If t is below 0: the cold of the day is 10 * -t / (10 + its snow).",
                DayEdgesTest::coldOfTheDay);
        Checks.sentence("A DAY", "This is stored with the cold that is stored, and comes to its sum of cold",
                DayEdgesTest::coldAddsUp);
        Checks.sentence("A DAY", "and no warmth is stored any more", DayEdgesTest::noWarmthAnyMore);
        Checks.sentence("A DAY", "(If t is 0, neither changes.)", DayEdgesTest::zeroDegrees);
        Checks.sentence("A DAY", "As long as any cell is not frozen", DayEdgesTest::allAreFrozen);
        Checks.sentence("A DAY", "and the cold that is stored is at least 4 + c", DayEdgesTest::coldEnough);
        Checks.sentence("A DAY", "c being the first cell from the top that is not frozen",
                DayEdgesTest::firstThatIsNotFrozen);
        Checks.sentence("A DAY", "Each pipe of the site in this cell is heaved by setting 2.", DayEdgesTest::heaved);
        Checks.sentence("A DAY", "As long as any cell is frozen", DayEdgesTest::noneIsFrozen);
        Checks.sentence("A DAY", "and the warmth that is stored is at least 3 + c", DayEdgesTest::warmEnough);
        Checks.sentence("A DAY", "c being the first cell from the top that is frozen", DayEdgesTest::firstThatIsFrozen);
        Checks.sentence("A DAY", "If setting 0 is above 0", DayEdgesTest::neverFromBelow);
        Checks.sentence("A DAY", "and the days can be divided by it", DayEdgesTest::daysFromBelow);
        Checks.sentence("A DAY", "the last frozen cell thaws, if there is one", DayEdgesTest::lastFrozenCell);
        Checks.sentence("A DAY", "When a cell thaws, each pipe of the site in this cell sinks", DayEdgesTest::sinks);
        Checks.sentence("A DAY", "its heave becomes less by half of it", DayEdgesTest::byHalf);
        Checks.finish("DayEdgesTest");
    }

    /** Of site 0: snow, cold, warmth, sum of cold, frozen cells. */
    private static void siteIs(String what, FrostTubes x, int... due) {
        int[] asked = {0, 2, 3, 4, 5};
        for (int i = 0; i < due.length; i++) {
            Checks.is(what + ", siteOf(0, " + asked[i] + ")", due[i], x.siteOf(0, asked[i]));
        }
    }

    private static FrostTubes snowy(int snow) {
        FrostTubes x = Grounds.bare(1);
        for (int left = snow; left > 0; left -= 30) {
            x.days(0, Math.min(30, left), 1);
        }
        return x;
    }

    private static void temperatures() {
        FrostTubes cold = Grounds.bare(1);
        cold.days(-30, 0, 1);
        siteIs("-30 degrees", cold, 0, 0, 0, 30, 5);
        FrostTubes warm = Grounds.bare(1);
        warm.days(30, 0, 1);
        siteIs("30 degrees", warm, 0, 0, 30, 0, 0);
        Checks.refuses("-31 degrees", Checks.ARGUMENT, () -> cold.days(-31, 0, 1));
        Checks.refuses("31 degrees", Checks.ARGUMENT, () -> warm.days(31, 0, 1));
    }

    private static void newSnow() {
        FrostTubes x = Grounds.bare(1);
        x.days(0, 0, 1);
        Checks.is("0", 0, x.siteOf(0, 0));
        x.days(0, 30, 1);
        Checks.is("30", 30, x.siteOf(0, 0));
        Checks.refuses("31", Checks.ARGUMENT, () -> x.days(0, 31, 1));
        Checks.refuses("-1", Checks.ARGUMENT, () -> x.days(0, -1, 1));
    }

    private static void oneDayMore() {
        FrostTubes x = new FrostTubes();
        Checks.is("at first", 0, x.about(3));
        x.days(0, 0, 1);
        Checks.is("1", 1, x.about(3));
        x.site();
        x.site();
        x.days(-4, 0, 1);
        Checks.is("one more, not one for each site", 2, x.about(3));
        Checks.is("it is more before the cells freeze", 2, x.since(0, 0));
        Checks.is("at each site", 2, x.since(1, 0));
    }

    private static void caughtSnow() {
        int[][] due = {{0, 0, 0}, {0, 6, 6}, {5, 0, 0}, {5, 4, 8}, {5, 5, 10}, {5, 6, 11}, {20, 19, 38}, {20, 20, 40},
            {20, 21, 41}, {20, 30, 50}};
        for (int[] row : due) {
            FrostTubes x = Grounds.bare(2);
            x.fence(0, row[0]);
            x.days(0, row[1], 1);
            Checks.is("fence " + row[0] + ", new snow " + row[1], row[2], x.siteOf(0, 0));
            Checks.is("beside it, without a fence", row[1], x.siteOf(1, 0));
        }
    }

    private static void mostSnow() {
        int[][] due = {{90, 8, 98}, {90, 9, 99}, {90, 10, 99}, {99, 0, 99}, {99, 30, 99}};
        for (int[] row : due) {
            FrostTubes x = snowy(row[0]);
            x.days(0, row[1], 1);
            Checks.is(row[0] + " and " + row[1], row[2], x.siteOf(0, 0));
        }
        FrostTubes fenced = snowy(90);
        fenced.fence(0, 20);
        fenced.days(0, 4, 1);
        Checks.is("90, 4 and 4", 98, fenced.siteOf(0, 0));
        fenced.days(0, 1, 1);
        Checks.is("98, 1 and 1", 99, fenced.siteOf(0, 0));
        FrostTubes first = snowy(99);
        first.set(1, 1);
        first.days(1, 30, 1);
        Checks.is("99 before it melts, not behind it", 98, first.siteOf(0, 0));
    }

    /** Snow, setting 1, t, snow then. */
    private static void melting() {
        int[][] due = {{7, 2, 3, 1}, {6, 2, 3, 0}, {5, 2, 3, 0}, {1, 2, 1, 0}, {0, 2, 1, 0}, {99, 9, 11, 0},
            {99, 9, 10, 9}, {30, 1, 30, 0}, {31, 1, 30, 1}, {99, 9, 30, 0}};
        for (int[] row : due) {
            FrostTubes x = snowy(row[0]);
            x.set(1, row[1]);
            x.days(row[2], 0, 1);
            Checks.is(row[0] + " of snow, " + row[1] + " a degree, " + row[2] + " degrees", row[3], x.siteOf(0, 0));
        }
        FrostTubes cold = snowy(9);
        cold.days(-1, 0, 1);
        Checks.is("nothing melts in frost", 9, cold.siteOf(0, 0));
        cold.days(0, 0, 1);
        Checks.is("nothing melts at 0 degrees", 9, cold.siteOf(0, 0));
        FrostTubes fresh = Grounds.bare(1);
        fresh.days(1, 3, 1);
        Checks.is("the new snow melts too", 1, fresh.siteOf(0, 0));
    }

    /** Snow, setting 1, t, warmth then. */
    private static void warmthBesideMelting() {
        int[][] due = {{0, 2, 3, 3}, {1, 2, 3, 3}, {2, 2, 3, 2}, {5, 2, 3, 1}, {6, 2, 3, 0}, {8, 9, 1, 1}, {9, 9, 1, 0},
            {17, 9, 2, 1}, {18, 9, 2, 0}, {29, 1, 30, 1}, {30, 1, 30, 0}, {99, 9, 30, 19}};
        for (int[] row : due) {
            FrostTubes x = snowy(row[0]);
            x.set(1, row[1]);
            x.days(row[2], 0, 1);
            Checks.is(row[0] + " of snow, " + row[1] + " a degree, " + row[2] + " degrees", row[3], x.siteOf(0, 3));
        }
    }

    private static void noWarmthUnderSnow() {
        FrostTubes x = snowy(7);
        x.days(3, 0, 1);
        siteIs("one is left", x, 1, 0, 0, 0, 0);
        FrostTubes much = snowy(99);
        much.days(30, 0, 1);
        siteIs("39 are left", much, 39, 0, 0, 0, 0);
    }

    private static void warmthAddsUp() {
        FrostTubes x = Grounds.bare(1);
        x.days(2, 0, 1);
        x.days(30, 0, 2);
        siteIs("2, 30 and 30", x, 0, 0, 62, 0, 0);
        x.days(1, 9, 1);
        siteIs("and 0 under snow", x, 7, 0, 62, 0, 0);
    }

    private static void noColdAnyMore() {
        FrostTubes x = Grounds.bare(1);
        x.days(-3, 0, 1);
        x.days(1, 0, 1);
        siteIs("a degree takes it", x, 0, 0, 1, 3, 0);
        FrostTubes y = Grounds.bare(1);
        y.days(-3, 0, 1);
        y.days(1, 30, 1);
        siteIs("also a day without warmth", y, 28, 0, 0, 3, 0);
    }

    /** Snow, t, cold of the day. */
    private static void coldOfTheDay() {
        int[][] due = {{0, -1, 1}, {1, -1, 0}, {0, -30, 30}, {10, -2, 1}, {11, -2, 0}, {10, -1, 0}, {20, -30, 10},
            {21, -30, 9}, {99, -30, 2}, {99, -10, 0}, {99, -11, 1}, {90, -10, 1}, {91, -10, 0}};
        for (int[] row : due) {
            FrostTubes x = snowy(row[0]);
            x.days(row[1], 0, 1);
            Checks.is(row[0] + " of snow, " + row[1] + " degrees", row[2], x.siteOf(0, 4));
        }
        FrostTubes fresh = Grounds.bare(1);
        fresh.days(-2, 11, 1);
        Checks.is("the new snow keeps it off on its day", 0, fresh.siteOf(0, 4));
    }

    private static void coldAddsUp() {
        FrostTubes x = Grounds.bare(1);
        x.days(-1, 0, 3);
        siteIs("3", x, 0, 3, 0, 3, 0);
        x.days(-1, 0, 1);
        siteIs("4 freeze cell 0, and the sum stays", x, 0, 0, 0, 4, 1);
        x.days(5, 0, 1);
        siteIs("warmth leaves the sum", x, 0, 0, 2, 4, 0);
        x.days(-2, 0, 1);
        siteIs("6 together", x, 0, 2, 0, 6, 0);
    }

    private static void noWarmthAnyMore() {
        FrostTubes x = Grounds.bare(1);
        x.days(9, 0, 1);
        x.days(-1, 0, 1);
        siteIs("a degree takes it", x, 0, 1, 0, 1, 0);
        FrostTubes y = Grounds.bare(1);
        y.days(9, 0, 1);
        y.days(-1, 1, 1);
        siteIs("also a day without cold", y, 1, 0, 0, 0, 0);
    }

    private static void zeroDegrees() {
        FrostTubes x = Grounds.bare(1);
        x.days(-3, 0, 1);
        x.days(0, 0, 2);
        siteIs("the cold stays", x, 0, 3, 0, 3, 0);
        FrostTubes y = Grounds.bare(1);
        y.days(2, 0, 1);
        y.days(0, 4, 2);
        siteIs("the warmth stays", y, 8, 0, 2, 0, 0);
    }

    private static void allAreFrozen() {
        FrostTubes x = Grounds.allFrozen();
        siteIs("555 of cold freeze all", x, 0, 0, 0, 555, 30);
        x.days(-30, 0, 60);
        siteIs("1800 more are stored", x, 0, 1800, 0, 2355, 30);
        Checks.is("the last one froze only once", 19, x.since(0, 29));
    }

    private static void coldEnough() {
        FrostTubes top = Grounds.bare(1);
        top.days(-3, 0, 1);
        siteIs("3 are too little for cell 0", top, 0, 3, 0, 3, 0);
        top.days(-1, 0, 1);
        siteIs("4 are not", top, 0, 0, 0, 4, 1);
        for (int c = 1; c < 30; c++) {
            FrostTubes less = Grounds.freeze(Grounds.bare(1), Grounds.COLD_TO[c] - 1);
            Checks.is("one too little for cell " + c, c, less.siteOf(0, 5));
            Checks.is("it is stored", 3 + c, less.siteOf(0, 2));
            less.days(-1, 0, 1);
            Checks.is("just enough for cell " + c, c + 1, less.siteOf(0, 5));
            Checks.is("it is used up", 0, less.siteOf(0, 2));
        }
        FrostTubes one = Grounds.bare(1);
        one.days(-30, 0, 1);
        siteIs("30 freeze the cells 0 to 4 on one day", one, 0, 0, 0, 30, 5);
        FrostTubes less = Grounds.bare(1);
        less.days(-29, 0, 1);
        siteIs("29 freeze four", less, 0, 7, 0, 29, 4);
    }

    private static void firstThatIsNotFrozen() {
        FrostTubes x = Looks.threeLayers();
        x.days(-5, 0, 1);
        Checks.is("cell 1", 6, x.since(0, 1));
        Checks.is("not cell 3", FrostTubes.NONE, x.since(0, 3));
        x.days(-15, 0, 1);
        Checks.is("cell 3", 7, x.since(0, 3));
        Checks.is("8 are too little for cell 5", 8, x.siteOf(0, 2));
        x.days(-1, 0, 1);
        Checks.is("cell 5", 8, x.since(0, 5));
    }

    private static void heaved() {
        FrostTubes x = Grounds.bare(2);
        x.pipe(0, 1);
        x.pipe(0, 1);
        x.pipe(0, 0);
        x.pipe(0, 2);
        x.pipe(1, 1);
        x.days(-4, 0, 1);
        x.days(0, 30, 3);
        x.shovel(0);
        x.set(2, 50);
        x.days(-5, 0, 1);
        int[] due = {50, 50, 10, 0, 0};
        for (int p = 0; p < due.length; p++) {
            Checks.is("pipe " + p, due[p], x.pipeOf(p, 2));
        }
        x.set(2, 0);
        x.days(-6, 0, 1);
        Checks.is("by 0", 0, x.pipeOf(3, 2));
        Checks.is("by 0 all the same", 1, x.pipeOf(3, 4));
    }

    private static void noneIsFrozen() {
        FrostTubes x = Grounds.bare(1);
        x.days(30, 0, 60);
        siteIs("all of it is stored", x, 0, 0, 1800, 0, 0);
        FrostTubes y = Grounds.freeze(Grounds.bare(1), 4);
        y.days(10, 0, 1);
        siteIs("what is not used is stored", y, 0, 0, 7, 4, 0);
    }

    private static void warmEnough() {
        for (int c = 0; c < 30; c++) {
            FrostTubes less = Grounds.thaw(Grounds.allFrozen(), Grounds.WARMTH_TO[c] - 1);
            Checks.is("one too little for cell " + c, 30 - c, less.siteOf(0, 5));
            Checks.is("it is stored", 2 + c, less.siteOf(0, 3));
            less.days(1, 0, 1);
            Checks.is("just enough for cell " + c, 29 - c, less.siteOf(0, 5));
            Checks.is("it is used up", 0, less.siteOf(0, 3));
        }
        FrostTubes one = Grounds.freeze(Grounds.bare(1), 30);
        one.days(25, 0, 1);
        siteIs("25 thaw the cells 0 to 4 on one day", one, 0, 0, 0, 30, 0);
        FrostTubes four = Grounds.freeze(Grounds.bare(1), 30);
        four.days(24, 0, 1);
        siteIs("24 thaw four", four, 0, 0, 6, 30, 1);
    }

    private static void firstThatIsFrozen() {
        FrostTubes x = Looks.threeLayers();
        x.days(3, 0, 1);
        Checks.is("cell 0", FrostTubes.NONE, x.since(0, 0));
        x.days(4, 0, 1);
        Checks.is("4 are too little for cell 2", 3, x.since(0, 2));
        x.days(1, 0, 1);
        Checks.is("cell 2", FrostTubes.NONE, x.since(0, 2));
        Checks.is("not cell 4", 1, x.since(0, 4));
    }

    private static void neverFromBelow() {
        FrostTubes x = Grounds.freeze(Grounds.bare(1), 30);
        Checks.is("setting 0 is 0: not on 60 days", 5, x.days(0, 0, 60));
        x.set(0, 1);
        Checks.is("setting 0 is 1: on each day", 4, x.days(0, 0, 1));
        Checks.is("on each day", 2, x.days(0, 0, 2));
    }

    private static void daysFromBelow() {
        FrostTubes x = Grounds.freeze(Grounds.bare(1), 30);
        x.set(0, 30);
        Checks.is("not on the days 2 to 29", 5, x.days(0, 0, 28));
        Checks.is("on day 30", 4, x.days(0, 0, 1));
        Checks.is("not on the days 31 to 59", 4, x.days(0, 0, 29));
        Checks.is("on day 60", 3, x.days(0, 0, 1));
        x.set(0, 7);
        Checks.is("not on the days 61 and 62", 3, x.days(0, 0, 2));
        Checks.is("on day 63", 2, x.days(0, 0, 1));
        FrostTubes fresh = new FrostTubes();
        fresh.site();
        Grounds.freeze(fresh, 30);
        Checks.is("at first not on the days 2 to 4", 5, fresh.days(0, 0, 3));
        Checks.is("at first on day 5", 4, fresh.days(0, 0, 1));
        Checks.is("and on day 10", 3, fresh.days(0, 0, 5));
    }

    private static void lastFrozenCell() {
        FrostTubes x = Grounds.mostLayers();
        x.set(0, 1);
        x.days(0, 0, 1);
        Checks.is("the last of the last layer", 26, x.siteOf(0, 7));
        Checks.is("one alone", 14, x.siteOf(0, 5));
        FrostTubes top = Grounds.freeze(Grounds.bare(1), 4);
        top.set(0, 1);
        Checks.is("cell 0, if it is the last", 0, top.days(0, 0, 1));
        Checks.is("none, if none is frozen", 0, top.days(0, 0, 1));
        FrostTubes all = Grounds.allFrozen();
        all.set(0, 1);
        all.days(0, 0, 1);
        Checks.is("cell 29", FrostTubes.NONE, all.since(0, 29));
        Checks.is("not cell 28", 28, all.siteOf(0, 7));
        FrostTubes same = Grounds.bare(1);
        same.set(0, 1);
        Checks.is("a cell that froze on this day", 0, same.days(-4, 0, 1));
        FrostTubes above = Grounds.freeze(Grounds.bare(1), 9);
        above.set(0, 1);
        Checks.is("behind the thaw from above", 0, above.days(3, 0, 1));
        FrostTubes two = Grounds.bare(2);
        two.days(-9, 0, 1);
        two.set(0, 1);
        Checks.is("at each site", 2, two.days(0, 0, 1));
    }

    private static void sinks() {
        FrostTubes x = Grounds.bare(2);
        x.pipe(0, 0);
        x.pipe(0, 0);
        x.pipe(0, 1);
        x.pipe(1, 0);
        x.days(-9, 0, 1);
        x.days(0, 30, 3);
        x.shovel(0);
        x.days(3, 0, 1);
        int[] due = {5, 5, 10, 10};
        for (int p = 0; p < due.length; p++) {
            Checks.is("pipe " + p, due[p], x.pipeOf(p, 2));
        }
        x.set(0, 1);
        x.days(0, 0, 1);
        Checks.is("from below too", 5, x.pipeOf(2, 2));
    }

    private static void byHalf() {
        int[][] due = {{0, 0}, {1, 1}, {2, 1}, {3, 2}, {10, 5}, {49, 25}, {50, 25}};
        for (int[] row : due) {
            FrostTubes x = Grounds.bare(1);
            x.pipe(0, 0);
            x.set(2, row[0]);
            x.days(-4, 0, 1);
            Checks.is("heaved", row[0], x.pipeOf(0, 2));
            x.days(3, 0, 1);
            Checks.is(row[0] + ", sunk", row[1], x.pipeOf(0, 2));
        }
    }
}
