/** The boundary cases of the promises 1 and 6 to 13, sentence by sentence. */
public final class ReadingEdgesTest {
    public static void main(String[] args) {
        Checks.sentence("P1", "Creates ground without sites.", ReadingEdgesTest::newObject);
        Checks.sentence("P6", "0: the sites; 1: the tubes; 2: the pipes; 3: the days; 4: the frozen cells of all "
                + "sites; 5: the layers of all sites", ReadingEdgesTest::aboutCounts);
        Checks.sentence("P6", "6: the winters begun so far by winter()", ReadingEdgesTest::winters);
        Checks.sentence("P6", "7: the greatest sum of cold of a site at winter() so far",
                ReadingEdgesTest::greatestSum);
        Checks.sentence("P6", "8: the heaves of all pipes together", ReadingEdgesTest::heavesTogether);
        Checks.sentence("P6", "9 to 11: the settings 0 to 2", ReadingEdgesTest::settings);
        Checks.sentence("P6", "if what is not 0 to 11", ReadingEdgesTest::aboutRange);
        Checks.sentence("P7", "5: its frozen cells, how many; 6: its layers", ReadingEdgesTest::siteCounts);
        Checks.sentence("P7", "7: its lowest frozen cell, NONE if there is none", ReadingEdgesTest::lowestOfSite);
        Checks.sentence("P7", "8: 1 if the cell 0 is frozen, otherwise 0", ReadingEdgesTest::cellZero);
        Checks.sentence("P7", "if what is not 0 to 8", ReadingEdgesTest::siteRange);
        Checks.sentence("P8", "Returns the number of the day (the days then) on which it froze last; NONE if it is "
                + "not frozen.", ReadingEdgesTest::since);
        Checks.sentence("P8", "if there is no such site or cell", ReadingEdgesTest::sinceRange);
        Checks.sentence("P9", "0: its first cell; 1: its cells, how many", ReadingEdgesTest::layerCells);
        Checks.sentence("P9", "2: the cells of the gap below it, 0 if it is the last one", ReadingEdgesTest::gapBelow);
        Checks.sentence("P9", "3: the day since which its oldest cell is frozen", ReadingEdgesTest::oldestOfLayer);
        Checks.sentence("P9", "if there is no such site or layer", ReadingEdgesTest::layerRange);
        Checks.sentence("P9", "if what is not 0 to 3", ReadingEdgesTest::layerWhat);
        Checks.sentence("P10", "3: the layers that it shows, how many (one that goes on below its end counts)",
                ReadingEdgesTest::shownLayers);
        Checks.sentence("P10", "4: the lowest frozen cell that it shows, NONE if there is none",
                ReadingEdgesTest::lowestShown);
        Checks.sentence("P10", "5: 1 if frost is below its end, otherwise 0", ReadingEdgesTest::belowItsEnd);
        Checks.sentence("P10", "if there is no such tube", ReadingEdgesTest::tubeRange);
        Checks.sentence("P10", "if what is not 0 to 5", ReadingEdgesTest::tubeWhat);
        Checks.sentence("P11", "3: the greatest heave that it had so far", ReadingEdgesTest::greatestHeave);
        Checks.sentence("P11", "4: how often it was heaved so far (also by 0)", ReadingEdgesTest::howOften);
        Checks.sentence("P11", "if there is no such pipe", ReadingEdgesTest::pipeRange);
        Checks.sentence("P11", "if what is not 0 to 4", ReadingEdgesTest::pipeWhat);
        Checks.sentence("P12", "each one beginning a layer, making one longer, or joining two",
                ReadingEdgesTest::bothWays);
        Checks.sentence("P12", "if way is neither 0 nor 1", ReadingEdgesTest::wayRange);
        Checks.sentence("P13", "from 0: of all frozen cells of all sites the one that is frozen longest, and so on",
                ReadingEdgesTest::frozenLongest);
        Checks.sentence("P13", "of several since the same day first that of the lowest site, of one site the "
                + "highest one (with the lowest number)", ReadingEdgesTest::sameDay);
        Checks.sentence("P13", "Returns 100 * its site and the cell, together.", ReadingEdgesTest::together);
        Checks.sentence("P13", "if there are not so many", ReadingEdgesTest::notSoMany);
        Checks.finish("ReadingEdgesTest");
    }

    private static final int[] FAR = {Integer.MIN_VALUE, Integer.MAX_VALUE};

    private static void newObject() {
        FrostTubes x = new FrostTubes();
        int[] due = {0, 0, 0, 0, 0, 0, 0, 0, 0, 5, 2, 10};
        for (int what = 0; what < due.length; what++) {
            Checks.is("about " + what, due[what], x.about(what));
        }
        Checks.refuses("no site", Checks.INDEX, () -> x.siteOf(0, 0));
        Checks.refuses("nothing to undo", Checks.STATE, () -> x.undo());
        Checks.refuses("slot 0", Checks.STATE, () -> x.restore(0));
        Checks.refuses("slot 1", Checks.STATE, () -> x.restore(1));
        Checks.is("no text", 0, x.clearText());
    }

    private static void aboutCounts() {
        FrostTubes x = Grounds.bare(4);
        int[] none = {4, 0, 0, 0, 0, 0};
        aboutIs("nothing yet", none, x);
        for (int i = 0; i < 8; i++) {
            x.tube(i % 4, 30);
            x.pipe(i % 4, 29);
        }
        Grounds.freeze(x, Grounds.COLD_TO[29]);
        int[] all = {4, 8, 8, 19, 120, 4};
        aboutIs("as much as there can be", all, x);
    }

    private static void aboutIs(String what, int[] due, FrostTubes x) {
        for (int i = 0; i < due.length; i++) {
            Checks.is(what + ": about " + i, due[i], x.about(i));
        }
    }

    private static void winters() {
        FrostTubes x = new FrostTubes();
        Checks.is("none", 0, x.about(6));
        x.winter();
        Checks.is("one, without sites", 1, x.about(6));
        x.winter();
        Checks.is("two", 2, x.about(6));
        x.undo();
        Checks.is("one is taken back", 1, x.about(6));
    }

    private static void greatestSum() {
        FrostTubes x = Grounds.bare(2);
        x.days(0, 1, 1);
        x.shovel(1);
        x.days(-22, 0, 1);
        Checks.is("not before winter()", 0, x.about(7));
        x.winter();
        Checks.is("22 of site 1, and 20 of site 0", 22, x.about(7));
        x.days(-21, 0, 1);
        x.winter();
        Checks.is("a lesser one", 22, x.about(7));
        x.days(-23, 0, 1);
        x.winter();
        Checks.is("a greater one", 23, x.about(7));
    }

    private static void heavesTogether() {
        FrostTubes x = Grounds.bare(4);
        Checks.is("without pipes", 0, x.about(8));
        for (int p = 0; p < 8; p++) {
            x.pipe(p % 4, p / 4);
        }
        x.set(2, 50);
        x.days(-9, 0, 1);
        Checks.is("8 times 50", 400, x.about(8));
        x.days(3, 0, 1);
        Checks.is("4 times 25 and 4 times 50", 300, x.about(8));
    }

    private static void settings() {
        FrostTubes x = new FrostTubes();
        x.set(0, 30);
        x.set(1, 9);
        x.set(2, 50);
        Checks.is("setting 0", 30, x.about(9));
        Checks.is("setting 1", 9, x.about(10));
        Checks.is("setting 2", 50, x.about(11));
    }

    private static void aboutRange() {
        FrostTubes x = Grounds.bare(1);
        Checks.is("0", 1, x.about(0));
        Checks.is("11", 10, x.about(11));
        Checks.refuses("-1", Checks.ARGUMENT, () -> x.about(-1));
        Checks.refuses("12", Checks.ARGUMENT, () -> x.about(12));
        for (int far : FAR) {
            Checks.refuses("far", Checks.ARGUMENT, () -> x.about(far));
        }
    }

    private static void siteCounts() {
        FrostTubes none = Grounds.bare(1);
        Checks.is("no frozen cell", 0, none.siteOf(0, 5));
        Checks.is("no layer", 0, none.siteOf(0, 6));
        Checks.is("all are frozen", 30, Grounds.allFrozen().siteOf(0, 5));
        Checks.is("15 layers", 15, Grounds.mostLayers().siteOf(0, 6));
    }

    private static void lowestOfSite() {
        Checks.is("none", FrostTubes.NONE, Grounds.bare(1).siteOf(0, 7));
        Checks.is("cell 0", 0, Grounds.freeze(Grounds.bare(1), 4).siteOf(0, 7));
        Checks.is("of several layers", 28, Grounds.mostLayers().siteOf(0, 7));
        Checks.is("cell 29", 29, Grounds.allFrozen().siteOf(0, 7));
        Checks.is("none any more", FrostTubes.NONE,
                Grounds.thaw(Grounds.allFrozen(), Grounds.WARMTH_TO[29]).siteOf(0, 7));
    }

    private static void cellZero() {
        FrostTubes x = Grounds.bare(1);
        Checks.is("not frozen", 0, x.siteOf(0, 8));
        x.days(-9, 0, 1);
        Checks.is("frozen", 1, x.siteOf(0, 8));
        x.days(3, 0, 1);
        Checks.is("thawed above cell 1", 0, x.siteOf(0, 8));
        Checks.is("which is frozen", 1, x.siteOf(0, 7));
    }

    private static void siteRange() {
        FrostTubes x = Grounds.bare(4);
        Checks.is("0 of the last site", 0, x.siteOf(3, 0));
        Checks.is("8 of the last site", 0, x.siteOf(3, 8));
        Checks.refuses("-1", Checks.ARGUMENT, () -> x.siteOf(0, -1));
        Checks.refuses("9", Checks.ARGUMENT, () -> x.siteOf(0, 9));
        Checks.refuses("site 4", Checks.INDEX, () -> x.siteOf(4, 0));
        Checks.refuses("site -1", Checks.INDEX, () -> x.siteOf(-1, 8));
        Checks.refuses("no site and no number: the site is told", Checks.INDEX, () -> x.siteOf(4, 9));
        for (int far : FAR) {
            Checks.refuses("far", Checks.ARGUMENT, () -> x.siteOf(0, far));
            Checks.refuses("a site far off", Checks.INDEX, () -> x.siteOf(far, 0));
        }
    }

    private static void since() {
        FrostTubes x = Grounds.bare(1);
        Checks.is("never frozen", FrostTubes.NONE, x.since(0, 0));
        x.days(-4, 0, 1);
        Checks.is("day 1", 1, x.since(0, 0));
        x.days(0, 0, 8);
        Checks.is("still day 1", 1, x.since(0, 0));
        x.days(3, 0, 1);
        Checks.is("thawed", FrostTubes.NONE, x.since(0, 0));
        x.days(-4, 0, 1);
        Checks.is("frozen last on day 11", 11, x.since(0, 0));
        FrostTubes late = Grounds.onDay(9998);
        late.days(-4, 0, 1);
        Checks.is("day 9999", 9999, late.since(0, 0));
    }

    private static void sinceRange() {
        FrostTubes x = Grounds.bare(4);
        Checks.is("the last cell of the last site", FrostTubes.NONE, x.since(3, 29));
        Checks.refuses("cell 30", Checks.INDEX, () -> x.since(3, 30));
        Checks.refuses("cell -1", Checks.INDEX, () -> x.since(0, -1));
        Checks.refuses("site 4", Checks.INDEX, () -> x.since(4, 0));
        Checks.refuses("site -1", Checks.INDEX, () -> x.since(-1, 29));
        for (int far : FAR) {
            Checks.refuses("a cell far off", Checks.INDEX, () -> x.since(0, far));
            Checks.refuses("a site far off", Checks.INDEX, () -> x.since(far, 0));
        }
    }

    private static void layerCells() {
        FrostTubes all = Grounds.allFrozen();
        Checks.is("all cells: the first", 0, all.layerOf(0, 0, 0));
        Checks.is("all cells: 30", 30, all.layerOf(0, 0, 1));
        FrostTubes last = Grounds.thaw(Grounds.allFrozen(), Grounds.WARMTH_TO[28]);
        Checks.is("the last cell alone", 29, last.layerOf(0, 0, 0));
        Checks.is("one cell", 1, last.layerOf(0, 0, 1));
    }

    private static void gapBelow() {
        FrostTubes x = Grounds.thaw(Grounds.allFrozen(), Grounds.WARMTH_TO[28]);
        x.days(-4, 0, 1);
        Checks.is("between 0 and 29", 28, x.layerOf(0, 0, 2));
        Checks.is("below 29", 0, x.layerOf(0, 1, 2));
        FrostTubes top = Grounds.freeze(Grounds.bare(1), 4);
        Checks.is("below a layer alone", 0, top.layerOf(0, 0, 2));
        FrostTubes most = Grounds.mostLayers();
        for (int k = 0; k < 14; k++) {
            Checks.is("below layer " + k, 1, most.layerOf(0, k, 2));
        }
        Checks.is("below layer 14", 0, most.layerOf(0, 14, 2));
    }

    private static void oldestOfLayer() {
        FrostTubes x = Looks.threeLayers();
        Checks.is("one cell", 5, x.layerOf(0, 0, 3));
        x.days(-5, 0, 1);
        Checks.is("the lowest of three is the oldest", 3, x.layerOf(0, 0, 3));
        FrostTubes down = Grounds.bare(1);
        down.days(-4, 0, 1);
        down.days(-5, 0, 1);
        Checks.is("the highest of two is the oldest", 1, down.layerOf(0, 0, 3));
        down.days(3, 0, 1);
        Checks.is("without it", 2, down.layerOf(0, 0, 3));
        FrostTubes late = Grounds.onDay(9998);
        late.days(-9, 0, 1);
        Checks.is("day 9999", 9999, late.layerOf(0, 0, 3));
    }

    private static void layerRange() {
        FrostTubes none = Grounds.bare(1);
        Checks.refuses("layer 0 of none", Checks.INDEX, () -> none.layerOf(0, 0, 0));
        Checks.refuses("layer -1 of none", Checks.INDEX, () -> none.layerOf(0, -1, 0));
        FrostTubes x = Grounds.mostLayers();
        Checks.is("layer 14", 28, x.layerOf(0, 14, 0));
        Checks.refuses("layer 15", Checks.INDEX, () -> x.layerOf(0, 15, 0));
        Checks.refuses("layer -1", Checks.INDEX, () -> x.layerOf(0, -1, 0));
        Checks.refuses("site 1", Checks.INDEX, () -> x.layerOf(1, 0, 0));
        Checks.refuses("site -1", Checks.INDEX, () -> x.layerOf(-1, 0, 0));
        for (int far : FAR) {
            Checks.refuses("a layer far off", Checks.INDEX, () -> x.layerOf(0, far, 0));
            Checks.refuses("a site far off", Checks.INDEX, () -> x.layerOf(far, 0, 0));
        }
        FrostTubes four = Grounds.bare(4);
        four.days(-4, 0, 1);
        Checks.is("the last site", 1, four.layerOf(3, 0, 3));
        Checks.refuses("behind it", Checks.INDEX, () -> four.layerOf(4, 0, 3));
    }

    private static void layerWhat() {
        FrostTubes x = Grounds.allFrozen();
        Checks.is("0", 0, x.layerOf(0, 0, 0));
        Checks.is("3", 1, x.layerOf(0, 0, 3));
        Checks.refuses("-1", Checks.ARGUMENT, () -> x.layerOf(0, 0, -1));
        Checks.refuses("4", Checks.ARGUMENT, () -> x.layerOf(0, 0, 4));
        Checks.refuses("no layer and no number: the layer is told", Checks.INDEX, () -> x.layerOf(0, 1, 4));
        Checks.refuses("no site and no number: the site is told", Checks.INDEX, () -> x.layerOf(1, 0, -1));
        for (int far : FAR) {
            Checks.refuses("far", Checks.ARGUMENT, () -> x.layerOf(0, 0, far));
        }
    }

    private static void shownLayers() {
        FrostTubes x = Grounds.bare(1);
        x.tube(0, 1);
        x.tube(0, 2);
        x.tube(0, 30);
        int[] none = {0, 0, 0};
        tubesAre("none", none, x, 3);
        x.days(-9, 0, 1);
        int[] one = {1, 1, 1};
        tubesAre("one that goes on below tube 0", one, x, 3);
        x.days(3, 0, 1);
        int[] below = {0, 1, 1};
        tubesAre("one below the end of tube 0 alone", below, x, 3);
        FrostTubes most = Grounds.mostLayers();
        most.tube(0, 28);
        most.tube(0, 29);
        most.tube(0, 30);
        int[] many = {14, 15, 15};
        tubesAre("as many as there can be", many, most, 3);
    }

    private static void tubesAre(String told, int[] due, FrostTubes x, int what) {
        for (int t = 0; t < due.length; t++) {
            Checks.is(told + ": tube " + t, due[t], x.tubeOf(t, what));
        }
    }

    private static void lowestShown() {
        FrostTubes x = Grounds.bare(1);
        x.tube(0, 1);
        x.tube(0, 30);
        int[] none = {-1, -1};
        tubesAre("none", none, x, 4);
        x.days(-4, 0, 1);
        int[] top = {0, 0};
        tubesAre("cell 0", top, x, 4);
        Grounds.freeze(x, Grounds.COLD_TO[29] - 4);
        int[] all = {0, 29};
        tubesAre("all", all, x, 4);
        x.days(3, 0, 1);
        int[] rest = {-1, 29};
        tubesAre("all but cell 0", rest, x, 4);
    }

    private static void belowItsEnd() {
        FrostTubes x = Grounds.freeze(Grounds.bare(1), Grounds.COLD_TO[28]);
        x.tube(0, 28);
        x.tube(0, 29);
        x.tube(0, 30);
        int[] due = {1, 0, 0};
        tubesAre("down to 28", due, x, 5);
        x.days(-30, 0, 2);
        int[] all = {1, 1, 0};
        tubesAre("down to 29", all, x, 5);
        Grounds.thaw(x, Grounds.WARMTH_TO[29]);
        int[] none = {0, 0, 0};
        tubesAre("nothing", none, x, 5);
    }

    private static void tubeRange() {
        FrostTubes none = Grounds.bare(1);
        Checks.refuses("tube 0 of none", Checks.INDEX, () -> none.tubeOf(0, 0));
        FrostTubes x = Grounds.full();
        Checks.is("tube 7", 3, x.tubeOf(7, 0));
        Checks.refuses("tube 8", Checks.INDEX, () -> x.tubeOf(8, 0));
        Checks.refuses("tube -1", Checks.INDEX, () -> x.tubeOf(-1, 0));
        for (int far : FAR) {
            Checks.refuses("a tube far off", Checks.INDEX, () -> x.tubeOf(far, 0));
        }
    }

    private static void tubeWhat() {
        FrostTubes x = Grounds.full();
        Checks.is("0", 0, x.tubeOf(0, 0));
        Checks.is("5", 0, x.tubeOf(0, 5));
        Checks.refuses("-1", Checks.ARGUMENT, () -> x.tubeOf(0, -1));
        Checks.refuses("6", Checks.ARGUMENT, () -> x.tubeOf(0, 6));
        Checks.refuses("no tube and no number: the tube is told", Checks.INDEX, () -> x.tubeOf(8, 6));
        for (int far : FAR) {
            Checks.refuses("far", Checks.ARGUMENT, () -> x.tubeOf(0, far));
        }
    }

    private static void greatestHeave() {
        FrostTubes x = Grounds.bare(1);
        x.pipe(0, 0);
        Checks.is("none yet", 0, x.pipeOf(0, 3));
        x.days(-4, 0, 1);
        Checks.is("10", 10, x.pipeOf(0, 3));
        x.days(3, 0, 1);
        Checks.is("10, though it is 5", 10, x.pipeOf(0, 3));
        x.set(2, 4);
        x.days(-4, 0, 1);
        Checks.is("10, though it is 9", 10, x.pipeOf(0, 3));
        x.days(3, 0, 1);
        x.set(2, 6);
        x.days(-4, 0, 1);
        Checks.is("11", 11, x.pipeOf(0, 3));
        Checks.is("it is that now", 11, x.pipeOf(0, 2));
    }

    private static void howOften() {
        FrostTubes x = Grounds.bare(1);
        x.set(2, 0);
        x.pipe(0, 0);
        Checks.is("not yet", 0, x.pipeOf(0, 4));
        x.days(-4, 0, 1);
        Checks.is("by 0", 1, x.pipeOf(0, 4));
        x.days(-30, 0, 1);
        Checks.is("not again while it is frozen", 1, x.pipeOf(0, 4));
        x.days(3, 0, 1);
        Checks.is("sinking is no heaving", 1, x.pipeOf(0, 4));
        x.set(2, 50);
        x.days(-4, 0, 1);
        Checks.is("by 50", 2, x.pipeOf(0, 4));
    }

    private static void pipeRange() {
        FrostTubes none = Grounds.bare(1);
        Checks.refuses("pipe 0 of none", Checks.INDEX, () -> none.pipeOf(0, 0));
        FrostTubes x = Grounds.full();
        Checks.is("pipe 7", 3, x.pipeOf(7, 0));
        Checks.refuses("pipe 8", Checks.INDEX, () -> x.pipeOf(8, 0));
        Checks.refuses("pipe -1", Checks.INDEX, () -> x.pipeOf(-1, 0));
        for (int far : FAR) {
            Checks.refuses("a pipe far off", Checks.INDEX, () -> x.pipeOf(far, 0));
        }
    }

    private static void pipeWhat() {
        FrostTubes x = Grounds.full();
        Checks.is("0", 0, x.pipeOf(0, 0));
        Checks.is("4", 0, x.pipeOf(0, 4));
        Checks.refuses("-1", Checks.ARGUMENT, () -> x.pipeOf(0, -1));
        Checks.refuses("5", Checks.ARGUMENT, () -> x.pipeOf(0, 5));
        Checks.refuses("no pipe and no number: the pipe is told", Checks.INDEX, () -> x.pipeOf(8, 5));
        for (int far : FAR) {
            Checks.refuses("far", Checks.ARGUMENT, () -> x.pipeOf(0, far));
        }
    }

    private static void layersAre(String what, int due, FrostTubes x) {
        Checks.is(what + ", cell by cell", due, x.layers(0, 0));
        Checks.is(what + ", as they froze", due, x.layers(0, 1));
    }

    private static void bothWays() {
        layersAre("none", 0, Grounds.bare(1));
        layersAre("one begins", 1, Grounds.freeze(Grounds.bare(1), 4));
        layersAre("one is longer", 1, Grounds.freeze(Grounds.bare(1), 9));
        layersAre("all cells", 1, Grounds.allFrozen());
        FrostTubes x = Grounds.mostLayers();
        layersAre("as many as there can be", 15, x);
        for (int c = 1; c < 29; c += 2) {
            x.days(-(4 + c) / 2, 0, 1);
            x.days(-(5 + c) / 2, 0, 1);
            layersAre("cell " + c + " joins two", 15 - (c + 1) / 2, x);
        }
    }

    private static void wayRange() {
        FrostTubes x = Grounds.bare(4);
        Checks.is("0", 0, x.layers(3, 0));
        Checks.is("1", 0, x.layers(3, 1));
        Checks.refuses("-1", Checks.ARGUMENT, () -> x.layers(3, -1));
        Checks.refuses("2", Checks.ARGUMENT, () -> x.layers(3, 2));
        Checks.refuses("site 4", Checks.INDEX, () -> x.layers(4, 0));
        Checks.refuses("site -1", Checks.INDEX, () -> x.layers(-1, 1));
        Checks.refuses("no site and no way: the site is told", Checks.INDEX, () -> x.layers(4, 2));
        for (int far : FAR) {
            Checks.refuses("far", Checks.ARGUMENT, () -> x.layers(0, far));
            Checks.refuses("a site far off", Checks.INDEX, () -> x.layers(far, 0));
        }
    }

    private static void frozenLongest() {
        FrostTubes x = Looks.threeLayers();
        int[] due = {4, 2, 0};
        for (int rank = 0; rank < due.length; rank++) {
            Checks.is("rank " + rank, due[rank], x.oldest(rank));
        }
        FrostTubes refrozen = Grounds.freeze(Grounds.bare(1), 9);
        refrozen.days(3, 0, 1);
        refrozen.days(-4, 0, 1);
        Checks.is("it counts when it froze last", 1, refrozen.oldest(0));
        FrostTubes late = Grounds.bare(2);
        late.days(0, 30, 3);
        late.shovel(1);
        late.days(-4, 0, 1);
        late.shovel(0);
        late.days(-4, 0, 1);
        Checks.is("the older one is at the later site", 100, late.oldest(0));
        Checks.is("then that of the first site", 0, late.oldest(1));
        FrostTubes last = Grounds.onDay(9998);
        last.days(-9, 0, 1);
        Checks.is("since day 9999", 0, last.oldest(0));
        Checks.is("since day 9999, too", 1, last.oldest(1));
    }

    private static void sameDay() {
        FrostTubes x = Grounds.bare(4);
        x.days(-9, 0, 1);
        int[] due = {0, 1, 100, 101, 200, 201, 300, 301};
        for (int rank = 0; rank < due.length; rank++) {
            Checks.is("rank " + rank, due[rank], x.oldest(rank));
        }
    }

    private static void together() {
        FrostTubes x = Grounds.freeze(Grounds.bare(4), Grounds.COLD_TO[29]);
        Checks.is("the first", 0, x.oldest(0));
        Checks.is("the last", 329, x.oldest(119));
    }

    private static void notSoMany() {
        FrostTubes none = Grounds.bare(4);
        Checks.refuses("rank 0 of none", Checks.INDEX, () -> none.oldest(0));
        Checks.refuses("rank 0 without sites", Checks.INDEX, () -> new FrostTubes().oldest(0));
        FrostTubes one = Grounds.freeze(Grounds.bare(1), 4);
        Checks.is("rank 0 of one", 0, one.oldest(0));
        Checks.refuses("rank 1 of one", Checks.INDEX, () -> one.oldest(1));
        Checks.refuses("rank -1", Checks.INDEX, () -> one.oldest(-1));
        FrostTubes all = Grounds.freeze(Grounds.bare(4), Grounds.COLD_TO[29]);
        Checks.refuses("rank 120 of 120", Checks.INDEX, () -> all.oldest(120));
        for (int far : FAR) {
            Checks.refuses("far", Checks.INDEX, () -> all.oldest(far));
        }
    }
}
