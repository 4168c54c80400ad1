/** The boundary cases of the promises 23 to 27, sentence by sentence. */
public final class ForesightEdgesTest {
    private static final int[] FAR = {Integer.MIN_VALUE, Integer.MAX_VALUE};

    public static void main(String[] args) {
        Checks.sentence("what would be", "these and all following methods up to the save slots change nothing",
                ForesightEdgesTest::changeNothing);
        Checks.sentence("what would be", "that the days are at most 9999 matters for runScript() and simulate() "
                + "alone", ForesightEdgesTest::beyondTheLastDay);
        Checks.sentence("P23", "t: 1 to 30: the temperature of each day to come", ForesightEdgesTest::goneRange);
        Checks.sentence("P23", "without new snow", ForesightEdgesTest::goneWithoutSnow);
        Checks.sentence("P23", "Returns behind how many days no cell of it is frozen, 0 if none is now",
                ForesightEdgesTest::goneNow);
        Checks.sentence("P23", "up to 400; NONE if some are all the time", ForesightEdgesTest::goneIn400);
        Checks.sentence("P23", "if there is no such site", ForesightEdgesTest::goneSite);
        Checks.sentence("P24", "t: -30 to -1: the temperature of each day to come", ForesightEdgesTest::reachedRange);
        Checks.sentence("P24", "without new snow", ForesightEdgesTest::reachedWithoutSnow);
        Checks.sentence("P24", "Returns behind how many days the cell is frozen, 0 if it is now",
                ForesightEdgesTest::reachedNow);
        Checks.sentence("P24", "up to 400; NONE if it is not by then", ForesightEdgesTest::reachedIn400);
        Checks.sentence("P24", "if there is no such site or cell", ForesightEdgesTest::reachedPlace);
        Checks.sentence("P25", "t: -30 to 30: the temperature of each day to come",
                ForesightEdgesTest::fenceTemperature);
        Checks.sentence("P25", "snow: 0 to 30: the new snow of each", ForesightEdgesTest::fenceSnow);
        Checks.sentence("P25", "n: 1 to 60: how many days", ForesightEdgesTest::fenceDays);
        Checks.sentence("P25", "Returns the height, 0 to 20", ForesightEdgesTest::fenceHeights);
        Checks.sentence("P25", "with which the fewest cells of the site would be frozen behind these days",
                ForesightEdgesTest::fewestCells);
        Checks.sentence("P25", "of several the least", ForesightEdgesTest::leastFence);
        Checks.sentence("P25", "if there is no such site", ForesightEdgesTest::fenceSite);
        Checks.sentence("P26", "t: -30 to 30: the temperature of each day to come",
                ForesightEdgesTest::heaveTemperature);
        Checks.sentence("P26", "n: 1 to 60: how many days", ForesightEdgesTest::heaveDays);
        Checks.sentence("P26", "without new snow", ForesightEdgesTest::heaveWithoutSnow);
        Checks.sentence("P26", "Returns its heave behind these days.", ForesightEdgesTest::heaves);
        Checks.sentence("P26", "if there is no such pipe", ForesightEdgesTest::heavePipe);
        Checks.sentence("P27", "Returns the site whose lowest frozen cell is lowest", ForesightEdgesTest::deepest);
        Checks.sentence("P27", "of several the one with the most frozen cells", ForesightEdgesTest::mostFrozen);
        Checks.sentence("P27", "of several of those the lowest number", ForesightEdgesTest::lowestNumber);
        Checks.sentence("P27", "NONE if nothing is frozen", ForesightEdgesTest::nothingFrozen);
        Checks.finish("ForesightEdgesTest");
    }

    private static void changeNothing() {
        Checks.Recipe[] recipes = {Grounds::half, Grounds::full};
        for (Checks.Recipe recipe : recipes) {
            Checks.changesNothing("goneIn", recipe, x -> x.goneIn(0, 1));
            Checks.changesNothing("reachedIn", recipe, x -> x.reachedIn(1, 29, -1));
            Checks.changesNothing("bestFence", recipe, x -> x.bestFence(0, -30, 30, 60));
            Checks.changesNothing("heaveIn", recipe, x -> x.heaveIn(1, -30, 60));
            Checks.changesNothing("deepest", recipe, x -> x.deepest());
            Checks.changesNothing("runScript", recipe, x -> x.runScript(3, 130309_300200_500010L));
            Checks.changesNothing("simulate", recipe, x -> x.simulate(1, 60));
        }
    }

    /** On day 9999 with the cells 0 to 4 frozen and nothing stored. */
    private static FrostTubes late() {
        FrostTubes x = Grounds.onDay(9998);
        x.pipe(0, 5);
        x.days(-30, 0, 1);
        return x;
    }

    private static void beyondTheLastDay() {
        FrostTubes x = late();
        Checks.is("25 of warmth by 1", 25, x.goneIn(0, 1));
        Checks.is("525 of cold by -30", 18, x.reachedIn(0, 29, -30));
        Checks.is("cell 24 is 370 days away", 370, x.reachedIn(0, 24, -1));
        Checks.is("60 days", 10, x.heaveIn(0, -1, 60));
        Checks.is("9 days freeze cell 5", 10, x.heaveIn(0, -1, 9));
        Checks.is("300 / 33 are 9 and freeze cell 5, 300 / 34 don't", 4, x.bestFence(0, -30, 20, 1));
        x.set(0, 10);
        Checks.is("from below on the days 10000 and 10010: 4 and 3; 12 of warmth: 0, 1 and 2", 12, x.goneIn(0, 1));
        x.set(0, 0);
        Checks.is("the script's days end there", 0, x.runScript(1, 130001));
        Checks.is("no day is left for a turn, either", 10051, x.simulate(Seeds.of(7, 30), 1));
        FrostTubes before = Grounds.onDay(9998);
        Checks.is("the last day is one for a script", FrostTubes.NONE, before.runScript(2, 130001_700005L));
        Checks.is("and for a turn", 10051, before.simulate(Seeds.of(7, 30), 1));
        Checks.is("two days are too many for a script", 0, before.runScript(1, 130002));
        Checks.is("and for a turn", 1, before.simulate(Seeds.of(7, 30 + 31 * 128), 1));
    }

    private static void goneRange() {
        FrostTubes x = Grounds.freeze(Grounds.bare(1), 30);
        Checks.is("1", 25, x.goneIn(0, 1));
        Checks.is("24", 2, x.goneIn(0, 24));
        Checks.is("25", 1, x.goneIn(0, 25));
        Checks.is("30", 1, x.goneIn(0, 30));
        for (int t : new int[] {0, 31, -1, -30, FAR[0], FAR[1]}) {
            Checks.refusesAndChangesNothing(t + " degrees", Checks.ARGUMENT, Grounds::half, y -> y.goneIn(0, t));
            Checks.refuses(t + " degrees, without frost", Checks.ARGUMENT, () -> Grounds.bare(1).goneIn(0, t));
        }
    }

    private static void goneWithoutSnow() {
        FrostTubes x = Grounds.freeze(Grounds.bare(1), 4);
        x.fence(0, 20);
        x.days(0, 2, 1);
        Checks.is("4 of snow melt on two days, then three of 1", 5, x.goneIn(0, 1));
        Checks.is("4 of snow leave 1 of 3, and then 3 more", 2, x.goneIn(0, 3));
    }

    private static void goneNow() {
        FrostTubes x = Grounds.bare(2);
        Checks.is("never frozen", 0, x.goneIn(0, 1));
        x.days(0, 30, 3);
        x.shovel(0);
        x.days(-4, 0, 1);
        Checks.is("the other site is frozen", 0, x.goneIn(1, 30));
        Checks.is("this one is", 3, x.goneIn(0, 1));
        Checks.is("behind one day", 1, x.goneIn(0, 3));
        x.set(0, 1);
        Checks.is("from below", 1, x.goneIn(0, 1));
    }

    /** 403 of warmth thaw the cells 0 to 25. */
    private static void goneIn400() {
        FrostTubes x = Grounds.freeze(Grounds.bare(1), Grounds.COLD_TO[25]);
        x.days(2, 0, 1);
        Checks.is("401 days", FrostTubes.NONE, x.goneIn(0, 1));
        x.days(1, 0, 1);
        Checks.is("400 days", 400, x.goneIn(0, 1));
        x.days(1, 0, 1);
        Checks.is("399 days", 399, x.goneIn(0, 1));
        Checks.is("all cells: 525 days", FrostTubes.NONE, Grounds.allFrozen().goneIn(0, 1));
        Checks.is("all cells by 2", 263, Grounds.allFrozen().goneIn(0, 2));
    }

    private static void goneSite() {
        Checks.is("the last site", 0, Grounds.bare(4).goneIn(3, 1));
        for (int s : new int[] {2, -1, FAR[0], FAR[1]}) {
            Checks.refusesAndChangesNothing("site " + s, Checks.INDEX, Grounds::half, y -> y.goneIn(s, 5));
            Checks.refuses("before a bad temperature", Checks.INDEX, () -> Grounds.half().goneIn(s, 0));
        }
        Checks.refuses("without sites", Checks.INDEX, () -> new FrostTubes().goneIn(0, 1));
        Checks.refuses("site 4", Checks.INDEX, () -> Grounds.full().goneIn(4, 31));
    }

    private static void reachedRange() {
        FrostTubes x = Grounds.bare(1);
        Checks.is("-1", 30, x.reachedIn(0, 4, -1));
        Checks.is("-29", 2, x.reachedIn(0, 4, -29));
        Checks.is("-30", 1, x.reachedIn(0, 4, -30));
        for (int t : new int[] {0, -31, 1, 30, FAR[0], FAR[1]}) {
            Checks.refusesAndChangesNothing(t + " degrees", Checks.ARGUMENT, Grounds::half,
                    y -> y.reachedIn(0, 5, t));
            Checks.refuses(t + " degrees, a frozen cell", Checks.ARGUMENT, () -> Grounds.half().reachedIn(0, 0, t));
        }
    }

    private static void reachedWithoutSnow() {
        FrostTubes x = Grounds.bare(1);
        x.fence(0, 20);
        x.days(0, 5, 1);
        Checks.is("10 of snow stay: 300 / 20 are 15", 2, x.reachedIn(0, 4, -30));
        Checks.is("10 / 20 is no cold", FrostTubes.NONE, x.reachedIn(0, 0, -1));
        Checks.is("20 / 20 is 1 of cold", 4, x.reachedIn(0, 0, -2));
    }

    private static void reachedNow() {
        FrostTubes x = Looks.threeLayers();
        int[] due = {0, 1, 0, 2, 0, 3};
        for (int c = 0; c < due.length; c++) {
            Checks.is("cell " + c, due[c], x.reachedIn(0, c, -9));
        }
        x.site();
        Checks.is("at the other site it is not", 1, x.reachedIn(1, 0, -9));
        x.set(0, 6);
        Checks.is("frozen now, though it thaws from below on the next day", 0, x.reachedIn(0, 4, -1));
    }

    /** 400 of cold freeze the cells 0 to 24, 429 those to 25. */
    private static void reachedIn400() {
        FrostTubes x = Grounds.bare(1);
        Checks.is("400 days", 400, x.reachedIn(0, 24, -1));
        Checks.is("429 days", FrostTubes.NONE, x.reachedIn(0, 25, -1));
        x.days(-28, 0, 1);
        Checks.is("401 days", FrostTubes.NONE, x.reachedIn(0, 25, -1));
        x.days(-1, 0, 1);
        Checks.is("400 days again", 400, x.reachedIn(0, 25, -1));
        Checks.is("the last cell by -2", 263, x.reachedIn(0, 29, -2));
    }

    private static void reachedPlace() {
        FrostTubes x = Grounds.bare(4);
        Checks.is("the last cell of the last site", 19, x.reachedIn(3, 29, -30));
        for (int c : new int[] {30, -1, FAR[0], FAR[1]}) {
            Checks.refusesAndChangesNothing("cell " + c, Checks.INDEX, Grounds::half, y -> y.reachedIn(0, c, -1));
            Checks.refuses("before a bad temperature", Checks.INDEX, () -> Grounds.half().reachedIn(0, c, 0));
        }
        for (int s : new int[] {2, -1, FAR[0], FAR[1]}) {
            Checks.refusesAndChangesNothing("site " + s, Checks.INDEX, Grounds::half, y -> y.reachedIn(s, 0, -1));
            Checks.refuses("before a bad temperature", Checks.INDEX, () -> Grounds.half().reachedIn(s, 0, 0));
        }
        Checks.refuses("without sites", Checks.INDEX, () -> new FrostTubes().reachedIn(0, 0, -1));
        Checks.refuses("site 4", Checks.INDEX, () -> x.reachedIn(4, 29, -31));
    }

    private static void fenceRefused(int t, int snow, int n) {
        Checks.refusesAndChangesNothing("bestFence(0, " + t + ", " + snow + ", " + n + ")", Checks.ARGUMENT,
                Grounds::half, x -> x.bestFence(0, t, snow, n));
    }

    private static void fenceTemperature() {
        FrostTubes x = Grounds.bare(1);
        Checks.is("-30: 300 / 13 freeze four, 300 / 14 three", 1, x.bestFence(0, -30, 3, 1));
        FrostTubes frozen = Grounds.allFrozen();
        Checks.is("30: all cells thaw only without more snow", 0, frozen.bestFence(0, 30, 30, 30));
        for (int t : new int[] {31, -31, FAR[0], FAR[1]}) {
            fenceRefused(t, 0, 1);
        }
    }

    private static void fenceSnow() {
        FrostTubes x = Grounds.bare(1);
        Checks.is("0: no fence is better", 0, x.bestFence(0, -30, 0, 60));
        Checks.is("30: 160 / 40 freeze cell 0, 160 / 41 don't: the least is 1", 1, x.bestFence(0, -16, 30, 1));
        for (int snow : new int[] {31, -1, FAR[0], FAR[1]}) {
            fenceRefused(0, snow, 1);
        }
    }

    private static void fenceDays() {
        FrostTubes x = Grounds.bare(1);
        Checks.is("1", 4, x.bestFence(0, -30, 20, 1));
        Checks.is("60: 10 / 11, and then always less", 0, x.bestFence(0, -1, 1, 60));
        x.days(0, 30, 4);
        Checks.is("60: under 99 of snow all are the same", 0, x.bestFence(0, -30, 1, 60));
        for (int n : new int[] {61, 0, -1, FAR[0], FAR[1]}) {
            fenceRefused(0, 0, n);
        }
    }

    private static void fenceHeights() {
        FrostTubes most = Grounds.bare(1);
        most.days(0, 1, 1);
        Checks.is("20: 200 / 51 is 3, 200 / 50 freezes cell 0", 20, most.bestFence(0, -20, 20, 1));
        FrostTubes more = Grounds.bare(1);
        Checks.is("21 would be best", 0, more.bestFence(0, -20, 20, 1));
        Checks.is("0: without snow none is better", 0, more.bestFence(0, -30, 0, 1));
    }

    private static void fewestCells() {
        FrostTubes x = Grounds.bare(2);
        Checks.is("300 / 20 freeze three, 300 / 21 two", 1, x.bestFence(0, -30, 10, 1));
        Checks.is("300 / 33 are 9 and freeze two, 300 / 34 one", 4, x.bestFence(0, -30, 20, 1));
        x.fence(0, 20);
        Checks.is("the fence that it has is no matter", 4, x.bestFence(0, -30, 20, 1));
        x.fence(0, 0);
        x.fence(1, 20);
        x.days(0, 30, 1);
        x.shovel(0);
        Checks.is("the cells of the other site are no matter", 4, x.bestFence(0, -30, 20, 1));
        FrostTubes warm = Looks.threeLayers();
        Checks.is("with snow that melts late more stay frozen", 0, warm.bestFence(0, 10, 4, 2));
        FrostTubes last = Grounds.freeze(Grounds.bare(1), Grounds.COLD_TO[28] + 6);
        Checks.is("300 / 11 freeze the last cell, too, 300 / 12 don't", 1, last.bestFence(0, -30, 1, 1));
    }

    private static void leastFence() {
        FrostTubes x = Grounds.bare(1);
        Checks.is("4 to 20 are as good", 4, x.bestFence(0, -30, 20, 1));
        Checks.is("all are as good", 0, x.bestFence(0, 0, 30, 60));
        Checks.is("all with nothing frozen", 0, x.bestFence(0, 30, 0, 60));
        FrostTubes below = Grounds.bare(1);
        below.set(0, 2);
        Checks.is("all begin on the present day", 0, below.bestFence(0, -4, 0, 1));
        x.days(0, 1, 1);
        Checks.is("no more is caught than falls, 50 / 13: 1 is as good as 20", 1, x.bestFence(0, -5, 1, 1));
    }

    private static void fenceSite() {
        Checks.is("the last site", 4, Grounds.bare(4).bestFence(3, -30, 20, 1));
        for (int s : new int[] {2, -1, FAR[0], FAR[1]}) {
            Checks.refusesAndChangesNothing("site " + s, Checks.INDEX, Grounds::half, y -> y.bestFence(s, 0, 0, 1));
            Checks.refuses("before bad days", Checks.INDEX, () -> Grounds.half().bestFence(s, 31, 31, 61));
        }
        Checks.refuses("without sites", Checks.INDEX, () -> new FrostTubes().bestFence(0, 0, 0, 1));
        Checks.refuses("site 4", Checks.INDEX, () -> Grounds.full().bestFence(4, 0, 0, 0));
    }

    private static void heaveRefused(int t, int n) {
        Checks.refusesAndChangesNothing("heaveIn(0, " + t + ", " + n + ")", Checks.ARGUMENT, Grounds::half,
                x -> x.heaveIn(0, t, n));
    }

    private static void heaveTemperature() {
        FrostTubes x = Grounds.bare(1);
        x.pipe(0, 4);
        Checks.is("-30", 10, x.heaveIn(0, -30, 1));
        Checks.is("-29", 0, x.heaveIn(0, -29, 1));
        x.days(-30, 0, 1);
        Checks.is("30", 5, x.heaveIn(0, 30, 1));
        Checks.is("24", 10, x.heaveIn(0, 24, 1));
        for (int t : new int[] {31, -31, FAR[0], FAR[1]}) {
            heaveRefused(t, 1);
        }
    }

    private static void heaveDays() {
        FrostTubes x = Grounds.bare(1);
        x.pipe(0, 7);
        Checks.is("1", 0, x.heaveIn(0, -1, 1));
        Checks.is("59: 59 are too little for cell 7", 0, x.heaveIn(0, -1, 59));
        Checks.is("60", 10, x.heaveIn(0, -1, 60));
        for (int n : new int[] {61, 0, -1, FAR[0], FAR[1]}) {
            heaveRefused(0, n);
        }
    }

    private static void heaveWithoutSnow() {
        FrostTubes x = Grounds.bare(1);
        x.pipe(0, 0);
        x.fence(0, 20);
        x.days(0, 1, 1);
        Checks.is("20 / 12 on four days", 10, x.heaveIn(0, -2, 4));
        Checks.is("20 / 12 on three days", 0, x.heaveIn(0, -2, 3));
    }

    private static void heaves() {
        FrostTubes x = Grounds.bare(2);
        x.pipe(0, 0);
        x.pipe(1, 0);
        x.days(-4, 0, 1);
        Checks.is("as it is", 10, x.heaveIn(0, 0, 60));
        Checks.is("sunk", 5, x.heaveIn(0, 3, 1));
        Checks.is("2 of warmth are too little", 10, x.heaveIn(0, 2, 1));
        x.set(0, 1);
        x.set(2, 50);
        Checks.is("sunk from below", 5, x.heaveIn(0, 0, 60));
        Checks.is("sunk to 5, from 55 to 28, and from 78 to 39", 39, x.heaveIn(1, -4, 3));
    }

    private static void heavePipe() {
        FrostTubes full = Grounds.full();
        Checks.is("the last pipe", full.pipeOf(7, 2), full.heaveIn(7, 0, 1));
        for (int p : new int[] {2, -1, FAR[0], FAR[1]}) {
            Checks.refusesAndChangesNothing("pipe " + p, Checks.INDEX, Grounds::half, y -> y.heaveIn(p, 0, 1));
            Checks.refuses("before bad days", Checks.INDEX, () -> Grounds.half().heaveIn(p, 31, 61));
        }
        Checks.refuses("without pipes", Checks.INDEX, () -> Grounds.bare(1).heaveIn(0, 0, 1));
        Checks.refuses("pipe 8", Checks.INDEX, () -> Grounds.full().heaveIn(8, 0, 0));
    }

    /** Weather of one site: the others lie under snow. */
    private static FrostTubes at(FrostTubes x, int s, int t) {
        for (int other = 0; other < x.about(0); other++) {
            x.shovel(other);
        }
        x.days(0, 30, 4);
        x.shovel(s);
        x.days(t, 0, 1);
        return x;
    }

    private static void deepest() {
        FrostTubes x = Grounds.bare(4);
        at(x, 3, -4);
        Checks.is("one alone, cell 0", 3, x.deepest());
        at(x, 1, -9);
        Checks.is("the lower one", 1, x.deepest());
        at(x, 1, 3);
        Checks.is("lower, though of as many cells", 1, x.deepest());
        at(x, 0, -4);
        at(x, 0, 3);
        Checks.is("one that thawed", 1, x.deepest());
        FrostTubes fewer = Grounds.bare(2);
        at(fewer, 1, -15);
        at(fewer, 1, 7);
        at(fewer, 0, -9);
        Checks.is("lower, though of fewer cells", 1, fewer.deepest());
    }

    private static void mostFrozen() {
        FrostTubes x = Grounds.bare(3);
        x.days(-15, 0, 1);
        at(x, 0, 3);
        Checks.is("two of two cells and three", 1, x.deepest());
        at(x, 1, 7);
        Checks.is("three of the last site", 2, x.deepest());
        at(x, 2, 7);
        Checks.is("two of the first site", 0, x.deepest());
    }

    private static void lowestNumber() {
        FrostTubes x = Grounds.freeze(Grounds.bare(4), Grounds.COLD_TO[29]);
        Checks.is("all the same", 0, x.deepest());
        at(x, 0, 3);
        Checks.is("the next three are", 1, x.deepest());
        at(x, 1, 3);
        Checks.is("the last two are", 2, x.deepest());
    }

    private static void nothingFrozen() {
        Checks.is("without sites", FrostTubes.NONE, new FrostTubes().deepest());
        Checks.is("without frost", FrostTubes.NONE, Grounds.bare(4).deepest());
        FrostTubes x = Grounds.freeze(Grounds.bare(4), 4);
        Checks.is("with a little of it", 0, x.deepest());
        x.days(3, 0, 1);
        Checks.is("with none any more", FrostTubes.NONE, x.deepest());
    }
}
