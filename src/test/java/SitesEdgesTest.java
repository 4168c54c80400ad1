/** The boundary cases of the section SITES, sentence by sentence. */
public final class SitesEdgesTest {
    public static void main(String[] args) {
        Checks.sentence("Terms", "All divisions are rounded down.", SitesEdgesTest::roundedDown);
        Checks.sentence("SITES", "There are at most 4 sites, numbered from 0.", SitesEdgesTest::fourSites);
        Checks.sentence("SITES", "A site has 30 cells of ground, numbered from 0 at the top",
                SitesEdgesTest::thirtyCells);
        Checks.sentence("SITES", "each frozen or not (at first none is)", SitesEdgesTest::noneFrozenAtFirst);
        Checks.sentence("SITES", "snow of 0 to 99, at first 0", SitesEdgesTest::snow);
        Checks.sentence("SITES", "a fence of the height 0 to 20, at first 0", SitesEdgesTest::fence);
        Checks.sentence("SITES", "cold and warmth that are stored, at first 0; and a sum of cold, at first 0",
                SitesEdgesTest::nothingStoredAtFirst);
        Checks.sentence("SITES", "A layer of a site is a row of frozen cells, one below the other, as long as it "
                + "can be", SitesEdgesTest::layersAreLong);
        Checks.sentence("SITES", "layers are numbered from 0, from the top", SitesEdgesTest::layersFromTheTop);
        Checks.sentence("SITES", "A gap is a row of cells that are not frozen between two layers.",
                SitesEdgesTest::gaps);
        Checks.sentence("SITES", "So there is one gap less than layers, or none of both.",
                SitesEdgesTest::gapsAndLayers);
        Checks.sentence("SITES", "There are at most 8 tubes, numbered from 0, each at a site",
                SitesEdgesTest::eightTubes);
        Checks.sentence("SITES", "with a length of 1 to 30: it shows the cells 0 to its length less 1",
                SitesEdgesTest::whatATubeShows);
        Checks.sentence("SITES", "There are at most 8 pipes, numbered from 0, each at a site, in a cell",
                SitesEdgesTest::eightPipes);
        Checks.sentence("SITES", "with a heave, at first 0", SitesEdgesTest::noHeaveAtFirst);
        Checks.finish("SitesEdgesTest");
    }

    private static void roundedDown() {
        FrostTubes cold = Grounds.bare(1);
        cold.days(-20, 11, 1);
        Checks.is("200 / 21 is 9: 4 and 5 are used", 0, cold.siteOf(0, 2));
        Checks.is("200 / 21 is 9", 9, cold.siteOf(0, 4));
        FrostTubes warm = Grounds.bare(1);
        warm.set(1, 9);
        warm.days(2, 17, 1);
        Checks.is("17 / 9 is 1", 1, warm.siteOf(0, 3));
        FrostTubes heaved = Grounds.bare(1);
        heaved.pipe(0, 0);
        heaved.set(2, 9);
        heaved.days(-4, 0, 1);
        heaved.days(3, 0, 1);
        Checks.is("half of 9 is 4", 5, heaved.pipeOf(0, 2));
    }

    private static void fourSites() {
        FrostTubes x = Grounds.bare(0);
        Checks.is("none at first", 0, x.about(0));
        Checks.refuses("site 0 of none", Checks.INDEX, () -> x.siteOf(0, 0));
        for (int s = 0; s < 4; s++) {
            Checks.is("its number", s, x.site());
            Checks.is("the last one is there", 0, x.siteOf(s, 0));
            int next = s + 1;
            Checks.refuses("and none behind it", Checks.INDEX, () -> x.siteOf(next, 0));
        }
        Checks.refuses("a fifth", Checks.STATE, () -> x.site());
        Checks.is("four", 4, x.about(0));
        Checks.refuses("none before the first", Checks.INDEX, () -> x.siteOf(-1, 0));
    }

    private static void thirtyCells() {
        FrostTubes x = Grounds.bare(1);
        x.days(-4, 0, 1);
        Checks.is("cell 0 is the top", 1, x.since(0, 0));
        Checks.is("cell 1 is below it", FrostTubes.NONE, x.since(0, 1));
        FrostTubes all = Grounds.allFrozen();
        Checks.is("30 and no more", 30, all.siteOf(0, 5));
        Checks.is("the lowest is 29", 29, all.siteOf(0, 7));
        Checks.is("29 is one", 19, all.since(0, 29));
        Checks.refuses("30 is none", Checks.INDEX, () -> all.since(0, 30));
        Checks.refuses("-1 is none", Checks.INDEX, () -> all.since(0, -1));
        all.days(-30, 0, 60);
        Checks.is("still 30", 30, all.siteOf(0, 5));
    }

    private static void noneFrozenAtFirst() {
        FrostTubes x = Grounds.bare(1);
        x.days(-30, 0, 20);
        int s = x.site();
        for (int c = 0; c < 30; c++) {
            Checks.is("cell " + c, FrostTubes.NONE, x.since(s, c));
        }
        Checks.is("frozen cells", 0, x.siteOf(s, 5));
        Checks.is("layers", 0, x.siteOf(s, 6));
        Checks.is("the lowest", FrostTubes.NONE, x.siteOf(s, 7));
        Checks.is("cell 0", 0, x.siteOf(s, 8));
    }

    private static void snow() {
        FrostTubes x = Grounds.bare(1);
        Checks.is("at first", 0, x.siteOf(0, 0));
        x.days(0, 30, 3);
        x.days(0, 8, 1);
        Checks.is("98", 98, x.siteOf(0, 0));
        x.days(0, 1, 1);
        Checks.is("99", 99, x.siteOf(0, 0));
        x.days(0, 1, 1);
        Checks.is("99 still", 99, x.siteOf(0, 0));
        x.set(1, 1);
        x.days(30, 0, 3);
        x.days(8, 0, 1);
        Checks.is("1", 1, x.siteOf(0, 0));
        x.days(1, 0, 1);
        Checks.is("0", 0, x.siteOf(0, 0));
        x.days(1, 0, 1);
        Checks.is("0 still", 0, x.siteOf(0, 0));
    }

    private static void fence() {
        FrostTubes x = Grounds.bare(1);
        Checks.is("at first", 0, x.siteOf(0, 1));
        x.fence(0, 20);
        Checks.is("20", 20, x.siteOf(0, 1));
        Checks.refuses("21", Checks.ARGUMENT, () -> x.fence(0, 21));
        x.fence(0, 0);
        Checks.is("0", 0, x.siteOf(0, 1));
        Checks.refuses("-1", Checks.ARGUMENT, () -> x.fence(0, -1));
    }

    private static void nothingStoredAtFirst() {
        FrostTubes x = Grounds.bare(1);
        x.days(-3, 0, 5);
        int s = x.site();
        Checks.is("cold", 0, x.siteOf(s, 2));
        Checks.is("sum of cold", 0, x.siteOf(s, 4));
        x.days(2, 0, 2);
        int later = x.site();
        Checks.is("warmth", 0, x.siteOf(later, 3));
    }

    private static void layersAreLong() {
        FrostTubes x = Grounds.bare(1);
        x.days(-4, 0, 1);
        x.days(-5, 0, 1);
        Checks.is("cells of two days are one layer", 1, x.siteOf(0, 6));
        Checks.is("both are in it", 2, x.layerOf(0, 0, 1));
        FrostTubes all = Grounds.allFrozen();
        Checks.is("all cells are one layer", 1, all.siteOf(0, 6));
        Checks.is("30 are in it", 30, all.layerOf(0, 0, 1));
        FrostTubes apart = Grounds.mostLayers();
        Checks.is("a cell between them parts them", 15, apart.siteOf(0, 6));
        for (int k = 0; k < 15; k++) {
            Checks.is("one cell", 1, apart.layerOf(0, k, 1));
        }
    }

    private static void layersFromTheTop() {
        FrostTubes x = Grounds.mostLayers();
        for (int k = 0; k < 15; k++) {
            Checks.is("layer " + k, 2 * k, x.layerOf(0, k, 0));
        }
        Checks.refuses("layer 15", Checks.INDEX, () -> x.layerOf(0, 15, 0));
        Checks.refuses("layer -1", Checks.INDEX, () -> x.layerOf(0, -1, 0));
    }

    private static void gaps() {
        FrostTubes x = Grounds.freeze(Grounds.bare(1), Grounds.COLD_TO[9]);
        Grounds.thaw(x, Grounds.WARMTH_TO[8]);
        x.days(-4, 0, 1);
        Checks.is("cells 1 to 8", 8, x.layerOf(0, 0, 2));
        Checks.is("the cells below the last layer are none", 0, x.layerOf(0, 1, 2));
        x.days(3, 0, 1);
        Checks.is("the cells above the first layer are none", 0, x.layerOf(0, 0, 2));
        FrostTubes y = Grounds.mostLayers();
        Checks.is("cell 1 alone", 1, y.layerOf(0, 0, 2));
    }

    private static void gapsAndLayers() {
        gapsAre(Grounds.bare(1), 0, 0);
        gapsAre(Grounds.freeze(Grounds.bare(1), 4), 1, 0);
        gapsAre(Grounds.allFrozen(), 1, 0);
        gapsAre(Looks.threeLayers(), 3, 2);
        gapsAre(Grounds.mostLayers(), 15, 14);
    }

    private static void gapsAre(FrostTubes x, int layers, int gaps) {
        Checks.is("layers", layers, x.siteOf(0, 6));
        int told = 0;
        for (int k = 0; k < layers; k++) {
            told += x.layerOf(0, k, 2) > 0 ? 1 : 0;
        }
        Checks.is("gaps of " + layers + " layers", gaps, told);
    }

    private static void eightTubes() {
        FrostTubes x = Grounds.bare(4);
        Checks.refuses("tube 0 of none", Checks.INDEX, () -> x.tubeOf(0, 0));
        for (int t = 0; t < 8; t++) {
            Checks.is("its number", t, x.tube(3 - t % 4, 1));
            Checks.is("its site", 3 - t % 4, x.tubeOf(t, 0));
        }
        Checks.refuses("a ninth", Checks.STATE, () -> x.tube(0, 1));
        Checks.is("eight", 8, x.about(1));
        Checks.refuses("tube 8", Checks.INDEX, () -> x.tubeOf(8, 0));
        Checks.refuses("tube -1", Checks.INDEX, () -> x.tubeOf(-1, 0));
    }

    private static void whatATubeShows() {
        FrostTubes x = Grounds.freeze(Grounds.bare(1), Grounds.COLD_TO[1]);
        x.tube(0, 1);
        x.tube(0, 2);
        x.tube(0, 3);
        Checks.is("cell 0 alone", 1, x.tubeOf(0, 2));
        Checks.is("cell 1 is below it", 1, x.tubeOf(0, 5));
        Checks.is("cells 0 and 1", 2, x.tubeOf(1, 2));
        Checks.is("nothing is below it", 0, x.tubeOf(1, 5));
        Checks.is("cell 2 is not frozen", 2, x.tubeOf(2, 2));
        FrostTubes all = Grounds.allFrozen();
        all.tube(0, 30);
        all.tube(0, 29);
        Checks.is("all cells", 30, all.tubeOf(0, 2));
        Checks.is("down to 29", 29, all.tubeOf(0, 4));
        Checks.is("all but one", 29, all.tubeOf(1, 2));
        Checks.is("down to 28", 28, all.tubeOf(1, 4));
        Checks.refuses("length 0", Checks.ARGUMENT, () -> all.tube(0, 0));
        Checks.refuses("length 31", Checks.ARGUMENT, () -> all.tube(0, 31));
    }

    private static void eightPipes() {
        FrostTubes x = Grounds.bare(4);
        Checks.refuses("pipe 0 of none", Checks.INDEX, () -> x.pipeOf(0, 0));
        for (int p = 0; p < 8; p++) {
            Checks.is("its number", p, x.pipe(3 - p % 4, p == 0 ? 29 : 0));
            Checks.is("its site", 3 - p % 4, x.pipeOf(p, 0));
            Checks.is("its cell", p == 0 ? 29 : 0, x.pipeOf(p, 1));
        }
        Checks.refuses("a ninth", Checks.STATE, () -> x.pipe(0, 0));
        Checks.is("eight", 8, x.about(2));
        Checks.refuses("pipe 8", Checks.INDEX, () -> x.pipeOf(8, 0));
        Checks.refuses("pipe -1", Checks.INDEX, () -> x.pipeOf(-1, 0));
    }

    private static void noHeaveAtFirst() {
        FrostTubes x = Grounds.bare(1);
        x.pipe(0, 0);
        x.days(-4, 0, 1);
        x.days(3, 0, 1);
        int p = x.pipe(0, 0);
        Checks.is("heave", 0, x.pipeOf(p, 2));
        Checks.is("greatest heave", 0, x.pipeOf(p, 3));
        Checks.is("how often", 0, x.pipeOf(p, 4));
    }
}
