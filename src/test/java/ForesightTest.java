/** Promises 23 to 27. */
public final class ForesightTest {
    public static void main(String[] args) {
        goneIn();
        reachedIn();
        bestFence();
        heaveIn();
        deepest();
        beyondTheLastDay();
        changeNothing();
        Checks.finish("ForesightTest");
    }

    private static FrostTubes ground(int sites) {
        FrostTubes x = new FrostTubes();
        x.set(0, 0);
        for (int s = 0; s < sites; s++) {
            x.site();
        }
        return x;
    }

    private static void goneIn() {
        Checks.is("P23: none is frozen", 0, ground(1).goneIn(0, 1));
        FrostTubes x = Looks.threeLayers();
        Checks.is("P23: 3 + 5 + 7 by 3 a day", 5, x.goneIn(0, 3));
        Checks.is("P23: 15 at once", 1, x.goneIn(0, 15));
        Checks.is("P23: 14 are too little", 2, x.goneIn(0, 14));
        Checks.is("P23: 30", 1, x.goneIn(0, 30));
        x.set(0, 5);
        Checks.is("P23: 4 thaws from below on day 10", 8, x.goneIn(0, 1));
        x.set(0, 0);
        x.fence(0, 20);
        x.days(0, 5, 1);
        Checks.is("P23: ten of snow first; no new snow", 7, x.goneIn(0, 3));
        FrostTubes far = ground(1);
        far.days(-30, 0, 14);
        far.days(-9, 0, 1);
        Checks.is("P23: 26 cells", 26, far.about(4));
        far.days(2, 0, 1);
        Checks.is("P23: 401 days are too many", FrostTubes.NONE, far.goneIn(0, 1));
        far.days(1, 0, 1);
        Checks.is("P23: 400", 400, far.goneIn(0, 1));
        Checks.is("P23: 200", 200, far.goneIn(0, 2));
        Checks.refuses("P23: t 0", Checks.ARGUMENT, () -> far.goneIn(0, 0));
        Checks.refuses("P23: t 31", Checks.ARGUMENT, () -> far.goneIn(0, 31));
        Checks.refuses("P23: t -1", Checks.ARGUMENT, () -> far.goneIn(0, -1));
        Checks.refuses("P23: the site is told first", Checks.INDEX, () -> far.goneIn(1, 0));
        Checks.refuses("P23: site -1", Checks.INDEX, () -> far.goneIn(-1, 5));
    }

    private static void reachedIn() {
        FrostTubes x = Looks.threeLayers();
        Checks.is("P24: frozen now", 0, x.reachedIn(0, 2, -1));
        Checks.is("P24: cell 1", 1, x.reachedIn(0, 1, -10));
        Checks.is("P24: cell 3", 2, x.reachedIn(0, 3, -10));
        Checks.is("P24: cell 5", 3, x.reachedIn(0, 5, -10));
        FrostTubes bare = ground(2);
        Checks.is("P24: 400 days", 400, bare.reachedIn(1, 24, -1));
        Checks.is("P24: 429 days are too many", FrostTubes.NONE, bare.reachedIn(1, 25, -1));
        Checks.is("P24: the last cell: 555 of cold", 19, bare.reachedIn(0, 29, -30));
        bare.days(0, 1, 1);
        Checks.is("P24: under snow 10 / 11 is no cold", FrostTubes.NONE, bare.reachedIn(0, 0, -1));
        Checks.is("P24: 20 / 11 is 1 of cold, without new snow", 4, bare.reachedIn(0, 0, -2));
        bare.shovel(0);
        bare.set(0, 1);
        Checks.is("P24: cell 0", 1, bare.reachedIn(0, 0, -30));
        Checks.is("P24: cell 4 thaws from below on the first day", 2, bare.reachedIn(0, 4, -30));
        Checks.is("P24: thaws on each day on which it freezes", FrostTubes.NONE, bare.reachedIn(0, 0, -4));
        Checks.refuses("P24: t 0", Checks.ARGUMENT, () -> bare.reachedIn(0, 0, 0));
        Checks.refuses("P24: t -31", Checks.ARGUMENT, () -> bare.reachedIn(0, 0, -31));
        Checks.refuses("P24: t 1", Checks.ARGUMENT, () -> x.reachedIn(0, 2, 1));
        Checks.refuses("P24: cell 30 is told first", Checks.INDEX, () -> bare.reachedIn(0, 30, 0));
        Checks.refuses("P24: cell -1", Checks.INDEX, () -> bare.reachedIn(0, -1, -1));
        Checks.refuses("P24: site 2 is told first", Checks.INDEX, () -> bare.reachedIn(2, 0, 5));
        Checks.refuses("P24: site -1", Checks.INDEX, () -> bare.reachedIn(-1, 0, -1));
    }

    private static void bestFence() {
        FrostTubes x = ground(1);
        Checks.is("P25: 300 / 20 freeze three, 300 / 21 two", 1, x.bestFence(0, -30, 10, 1));
        Checks.is("P25: 300 / 34 are 8", 4, x.bestFence(0, -30, 20, 1));
        Checks.is("P25: without snow all are the same", 0, x.bestFence(0, -30, 0, 60));
        Checks.is("P25: at 0 degrees too", 0, x.bestFence(0, 0, 30, 60));
        x.fence(0, 15);
        Checks.is("P25: the fence that stands does not matter", 4, x.bestFence(0, -30, 20, 1));
        x.fence(0, 0);
        x.days(0, 1, 1);
        Checks.is("P25: 200 / 51 are 3", 20, x.bestFence(0, -20, 20, 1));
        FrostTubes frozen = Looks.threeLayers();
        Checks.is("P25: snow keeps the warmth off", 0, frozen.bestFence(0, 10, 5, 3));
        Checks.is("P25: the ends of the ranges", 0, frozen.bestFence(0, 30, 30, 60));
        FrostTubes deep = ground(1);
        deep.days(-30, 0, 17);
        deep.days(-18, 0, 1);
        Checks.is("P25: 29 are frozen, 6 stored; 300 / 11 and 6 freeze the last, 300 / 12 don't", 1,
                deep.bestFence(0, -30, 1, 1));
        int[][] bad = {{-31, 0, 1}, {31, 0, 1}, {0, -1, 1}, {0, 31, 1}, {0, 0, 0}, {0, 0, 61}};
        for (int[] row : bad) {
            Checks.refuses("P25: bad days", Checks.ARGUMENT, () -> x.bestFence(0, row[0], row[1], row[2]));
            Checks.refuses("P25: the site is told first", Checks.INDEX, () -> x.bestFence(1, row[0], row[1], row[2]));
        }
        Checks.refuses("P25: site -1", Checks.INDEX, () -> x.bestFence(-1, 0, 0, 1));
    }

    private static void heaveIn() {
        FrostTubes x = Looks.threeLayers();
        x.site();
        x.pipe(0, 1);
        x.pipe(1, 0);
        Checks.is("P26: too little cold", 0, x.heaveIn(0, -4, 1));
        Checks.is("P26: cell 1 freezes", 10, x.heaveIn(0, -5, 1));
        Checks.is("P26: freezes once", 10, x.heaveIn(0, -5, 60));
        Checks.is("P26: at the other site", 10, x.heaveIn(1, -4, 1));
        Checks.is("P26: nothing", 0, x.heaveIn(1, 0, 60));
        x.days(-9, 0, 1);
        Checks.is("P26: is 10", 10, x.heaveIn(0, 0, 60));
        Checks.is("P26: sinks", 5, x.heaveIn(0, 30, 1));
        Checks.is("P26: sinks once", 5, x.heaveIn(0, 30, 60));
        x.days(0, 2, 1);
        Checks.is("P26: no new snow: 4 melt", 5, x.heaveIn(0, 8, 1));
        int[][] bad = {{-31, 1}, {31, 1}, {0, 0}, {0, 61}, {0, -1}};
        for (int[] row : bad) {
            Checks.refuses("P26: bad days", Checks.ARGUMENT, () -> x.heaveIn(0, row[0], row[1]));
            Checks.refuses("P26: the pipe is told first", Checks.INDEX, () -> x.heaveIn(2, row[0], row[1]));
        }
        Checks.refuses("P26: pipe -1", Checks.INDEX, () -> x.heaveIn(-1, 0, 1));
        Checks.refuses("P26: pipe 8", Checks.INDEX, () -> x.heaveIn(8, 0, 1));
    }

    private static void deepest() {
        Checks.is("P27: no sites", FrostTubes.NONE, new FrostTubes().deepest());
        FrostTubes x = ground(3);
        Checks.is("P27: nothing frozen", FrostTubes.NONE, x.deepest());
        x.days(-30, 0, 1);
        Checks.is("P27: all the same", 0, x.deepest());
        coverAllBut(x, 0);
        x.days(3, 0, 1);
        Checks.is("P27: site 0 has one less", 1, x.deepest());
        coverAllBut(x, 1);
        x.days(7, 0, 1);
        Checks.is("P27: site 1 has two less", 2, x.deepest());
        coverAllBut(x, 1);
        x.days(-19, 0, 1);
        Checks.is("P27: site 1 is deeper or has more", 1, x.deepest());
        FrostTubes few = ground(2);
        few.days(-30, 0, 1);
        coverAllBut(few, 1);
        few.days(-9, 0, 1);
        few.days(18, 0, 1);
        Checks.is("P27: site 1 has fewer", 1, few.siteOf(1, 5) < few.siteOf(0, 5) ? 1 : 0);
        Checks.is("P27: but is deeper", 1, few.deepest());
    }

    /** Much snow on the other sites, so that the weather to come touches one of them alone. */
    private static void coverAllBut(FrostTubes x, int bare) {
        x.days(0, 30, 4);
        x.shovel(bare);
    }

    private static void beyondTheLastDay() {
        FrostTubes x = ground(1);
        x.pipe(0, 0);
        for (int i = 0; i < 166; i++) {
            x.days(0, 0, 60);
        }
        x.days(-30, 0, 39);
        Checks.is("P23: days", 9999, x.about(3));
        Checks.is("P23: beyond 9999", 18, x.goneIn(0, 30));
        x.set(0, 5);
        Checks.is("P26: beyond 9999", 5, x.heaveIn(0, 3, 60));
        Checks.is("P24: beyond 9999", 0, x.reachedIn(0, 29, -30));
        Checks.is("P25: beyond 9999", 0, x.bestFence(0, 30, 0, 60));
    }

    private static FrostTubes used() {
        FrostTubes x = Looks.threeLayers();
        x.site();
        x.fence(0, 11);
        x.pipe(0, 1);
        x.tube(0, 4);
        x.save(1);
        x.days(-3, 2, 1);
        return x;
    }

    private static void changeNothing() {
        Checks.changesNothing("P23", () -> used(), x -> x.goneIn(0, 4));
        Checks.changesNothing("P24", () -> used(), x -> x.reachedIn(0, 12, -9));
        Checks.changesNothing("P25", () -> used(), x -> x.bestFence(0, -9, 4, 9));
        Checks.changesNothing("P26", () -> used(), x -> x.heaveIn(0, -9, 9));
        Checks.changesNothing("P27", () -> used(), x -> x.deepest());
        Checks.refusesAndChangesNothing("P23", Checks.ARGUMENT, () -> used(), x -> x.goneIn(0, 0));
        Checks.refusesAndChangesNothing("P24", Checks.INDEX, () -> used(), x -> x.reachedIn(0, 30, -9));
        Checks.refusesAndChangesNothing("P25", Checks.ARGUMENT, () -> used(), x -> x.bestFence(0, 0, 31, 1));
        Checks.refusesAndChangesNothing("P26", Checks.INDEX, () -> used(), x -> x.heaveIn(1, 0, 1));
    }
}
