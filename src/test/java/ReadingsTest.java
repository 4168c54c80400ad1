/** Promises 6 to 13. */
public final class ReadingsTest {
    public static void main(String[] args) {
        about();
        siteOf();
        since();
        layerOf();
        tubeOf();
        pipeOf();
        layers();
        oldest();
        fullObject();
        readingChangesNothing();
        Checks.finish("ReadingsTest");
    }

    private static void about() {
        FrostTubes x = Looks.threeLayers();
        x.site();
        x.tube(1, 4);
        x.tube(0, 4);
        x.tube(0, 30);
        x.pipe(1, 0);
        x.pipe(1, 3);
        x.set(1, 9);
        x.set(2, 50);
        x.days(-30, 0, 1);
        x.winter();
        x.days(-4, 0, 1);
        x.winter();
        // Site 0: 30 of cold refreeze 1 and 3 (5 and 7) and freeze 5 (9); 9 stay, and 4 more freeze 6 (10).
        // Site 1: 30 freeze 0 to 4, and 4 stay.
        int[] due = {2, 3, 2, 7, 12, 2, 2, 79, 100, 0, 9, 50};
        for (int what = 0; what < due.length; what++) {
            Checks.is("P6: about " + what, due[what], x.about(what));
        }
        Checks.refuses("P6: -1", Checks.ARGUMENT, () -> x.about(-1));
        Checks.refuses("P6: 12", Checks.ARGUMENT, () -> x.about(12));
        Checks.refuses("P6: least int", Checks.ARGUMENT, () -> x.about(Integer.MIN_VALUE));
    }

    private static void siteOf() {
        FrostTubes x = Looks.threeLayers();
        x.fence(0, 7);
        x.days(0, 3, 1);
        x.days(-2, 0, 1);
        // 20 / 16 is 1.
        int[] due = {6, 7, 1, 0, 50, 3, 3, 4, 1};
        for (int what = 0; what < due.length; what++) {
            Checks.is("P7: siteOf " + what, due[what], x.siteOf(0, what));
        }
        x.shovel(0);
        x.days(6, 0, 1);
        x.days(1, 0, 1);
        // 6 of warmth thaw 0; 3 and 1 more are too little for 2.
        int[] dueWarm = {0, 7, 0, 4, 50, 2, 2, 4, 0};
        for (int what = 0; what < dueWarm.length; what++) {
            Checks.is("P7: siteOf, warm, " + what, dueWarm[what], x.siteOf(0, what));
        }
        Checks.refuses("P7: site -1", Checks.INDEX, () -> x.siteOf(-1, 0));
        Checks.refuses("P7: site 1", Checks.INDEX, () -> x.siteOf(1, 0));
        Checks.refuses("P7: what -1", Checks.ARGUMENT, () -> x.siteOf(0, -1));
        Checks.refuses("P7: what 9", Checks.ARGUMENT, () -> x.siteOf(0, 9));
        Checks.refuses("P7: the site is told first", Checks.INDEX, () -> x.siteOf(1, 9));
    }

    private static void since() {
        FrostTubes x = Looks.threeLayers();
        int[] due = {5, -1, 3, -1, 1, -1};
        for (int c = 0; c < due.length; c++) {
            Checks.is("P8: since " + c, due[c], x.since(0, c));
        }
        Checks.is("P8: the last cell", FrostTubes.NONE, x.since(0, 29));
        Checks.refuses("P8: cell 30", Checks.INDEX, () -> x.since(0, 30));
        Checks.refuses("P8: cell -1", Checks.INDEX, () -> x.since(0, -1));
        Checks.refuses("P8: site 1", Checks.INDEX, () -> x.since(1, 0));
        Checks.refuses("P8: site -1", Checks.INDEX, () -> x.since(-1, 0));
        x.days(0, 0, 4);
        Checks.is("P8: stays the day of freezing", 5, x.since(0, 0));
        x.days(3, 0, 1);
        Checks.is("P8: thawed", FrostTubes.NONE, x.since(0, 0));
        x.days(-4, 0, 1);
        Checks.is("P8: frozen anew", 11, x.since(0, 0));
    }

    private static void layerOf() {
        FrostTubes x = new FrostTubes();
        x.set(0, 0);
        x.site();
        Checks.refuses("P9: nothing frozen", Checks.INDEX, () -> x.layerOf(0, 0, 0));
        x.days(-30, 0, 2);
        x.days(18, 0, 1);
        x.days(-9, 0, 1);
        // 60 freeze 0 to 7 (4 to 11 make 60) on the days 1 and 2; 18 thaw 0 to 3; 9 freeze 0 and 1.
        layerIs(x, 0, 0, 2, 2, 4);
        layerIs(x, 1, 4, 4, 0, 1);
        Checks.refuses("P9: layer 2", Checks.INDEX, () -> x.layerOf(0, 2, 0));
        Checks.refuses("P9: layer -1", Checks.INDEX, () -> x.layerOf(0, -1, 0));
        Checks.refuses("P9: site 1", Checks.INDEX, () -> x.layerOf(1, 0, 0));
        Checks.refuses("P9: site -1", Checks.INDEX, () -> x.layerOf(-1, 0, 0));
        Checks.refuses("P9: what -1", Checks.ARGUMENT, () -> x.layerOf(0, 0, -1));
        Checks.refuses("P9: what 4", Checks.ARGUMENT, () -> x.layerOf(0, 0, 4));
        Checks.refuses("P9: the layer is told first", Checks.INDEX, () -> x.layerOf(0, 2, 4));
        FrostTubes three = Looks.threeLayers();
        layerIs(three, 0, 0, 1, 1, 5);
        layerIs(three, 1, 2, 1, 1, 3);
        layerIs(three, 2, 4, 1, 0, 1);
        three.days(-5, 0, 1);
        layerIs(three, 0, 0, 3, 1, 3);
        FrostTubes all = new FrostTubes();
        all.set(0, 0);
        all.site();
        all.days(-30, 0, 19);
        layerIs(all, 0, 0, 30, 0, 1);
        Checks.refuses("P9: one layer alone", Checks.INDEX, () -> all.layerOf(0, 1, 0));
    }

    private static void layerIs(FrostTubes x, int k, int first, int cells, int gap, int day) {
        int[] due = {first, cells, gap, day};
        for (int what = 0; what < due.length; what++) {
            Checks.is("P9: layer " + k + ", " + what, due[what], x.layerOf(0, k, what));
        }
    }

    private static void tubeOf() {
        FrostTubes x = Looks.threeLayers();
        x.site();
        int[][] due = {
            {0, 1, 1, 1, 0, 1},
            {0, 2, 1, 1, 0, 1},
            {0, 3, 2, 2, 2, 1},
            {0, 4, 2, 2, 2, 1},
            {0, 5, 3, 3, 4, 0},
            {0, 30, 3, 3, 4, 0},
            {1, 30, 0, 0, -1, 0},
        };
        for (int[] row : due) {
            x.tube(row[0], row[1]);
        }
        for (int t = 0; t < due.length; t++) {
            for (int what = 0; what < 6; what++) {
                Checks.is("P10: tube " + t + ", " + what, due[t][what], x.tubeOf(t, what));
            }
        }
        Checks.refuses("P10: tube 7", Checks.INDEX, () -> x.tubeOf(7, 0));
        Checks.refuses("P10: tube -1", Checks.INDEX, () -> x.tubeOf(-1, 0));
        Checks.refuses("P10: what 6", Checks.ARGUMENT, () -> x.tubeOf(0, 6));
        Checks.refuses("P10: what -1", Checks.ARGUMENT, () -> x.tubeOf(0, -1));
        Checks.refuses("P10: the tube is told first", Checks.INDEX, () -> x.tubeOf(8, 6));
        FrostTubes goesOn = new FrostTubes();
        goesOn.site();
        goesOn.tube(0, 3);
        goesOn.days(-30, 0, 1);
        Checks.is("P10: a layer that goes on below counts", 1, goesOn.tubeOf(0, 3));
        Checks.is("P10: it shows three cells of it", 3, goesOn.tubeOf(0, 2));
        Checks.is("P10: the lowest that it shows", 2, goesOn.tubeOf(0, 4));
        Checks.is("P10: frost below its end", 1, goesOn.tubeOf(0, 5));
        goesOn.days(12, 0, 1);
        Checks.is("P10: only below its end, no layer", 0, goesOn.tubeOf(0, 3));
        Checks.is("P10: only below its end, no cell", FrostTubes.NONE, goesOn.tubeOf(0, 4));
        Checks.is("P10: only below its end", 1, goesOn.tubeOf(0, 5));
    }

    private static void pipeOf() {
        FrostTubes x = new FrostTubes();
        x.set(0, 0);
        x.site();
        x.site();
        x.pipe(1, 0);
        x.pipe(0, 1);
        x.pipe(0, 0);
        x.set(2, 15);
        x.days(-4, 0, 1);
        pipeIs(x, 0, 1, 0, 15, 15, 1);
        pipeIs(x, 1, 0, 1, 0, 0, 0);
        x.days(3, 0, 1);
        pipeIs(x, 0, 1, 0, 8, 15, 1);
        x.set(2, 0);
        x.days(-4, 0, 1);
        pipeIs(x, 2, 0, 0, 8, 15, 2);
        x.days(3, 0, 1);
        x.days(3, 0, 1);
        pipeIs(x, 2, 0, 0, 4, 15, 2);
        x.set(2, 20);
        x.days(-9, 0, 1);
        pipeIs(x, 0, 1, 0, 24, 24, 3);
        pipeIs(x, 1, 0, 1, 20, 20, 1);
        Checks.refuses("P11: pipe 3", Checks.INDEX, () -> x.pipeOf(3, 0));
        Checks.refuses("P11: pipe -1", Checks.INDEX, () -> x.pipeOf(-1, 0));
        Checks.refuses("P11: what 5", Checks.ARGUMENT, () -> x.pipeOf(0, 5));
        Checks.refuses("P11: what -1", Checks.ARGUMENT, () -> x.pipeOf(0, -1));
        Checks.refuses("P11: the pipe is told first", Checks.INDEX, () -> x.pipeOf(8, 5));
    }

    private static void pipeIs(FrostTubes x, int p, int s, int c, int heave, int greatest, int times) {
        int[] due = {s, c, heave, greatest, times};
        for (int what = 0; what < due.length; what++) {
            Checks.is("P11: pipe " + p + ", " + what, due[what], x.pipeOf(p, what));
        }
    }

    private static void layers() {
        FrostTubes x = Looks.threeLayers();
        Checks.is("P12: cell by cell", 3, x.layers(0, 0));
        Checks.is("P12: as they froze", 3, x.layers(0, 1));
        x.days(-5, 0, 1);
        Checks.is("P12: 1 joins two", 2, x.layers(0, 0));
        Checks.is("P12: 1 joins two, as they froze", 2, x.layers(0, 1));
        x.days(-7, 0, 1);
        Checks.is("P12: 3 joins two", 1, x.layers(0, 0));
        Checks.is("P12: 3 joins two, as they froze", 1, x.layers(0, 1));
        x.days(30, 0, 3);
        Checks.is("P12: none", 0, x.layers(0, 0));
        Checks.is("P12: none, as they froze", 0, x.layers(0, 1));
        x.days(-30, 0, 20);
        Checks.is("P12: all cells", 1, x.layers(0, 0));
        Checks.is("P12: all cells, as they froze", 1, x.layers(0, 1));
        Checks.refuses("P12: way 2", Checks.ARGUMENT, () -> x.layers(0, 2));
        Checks.refuses("P12: way -1", Checks.ARGUMENT, () -> x.layers(0, -1));
        Checks.refuses("P12: site 1", Checks.INDEX, () -> x.layers(1, 0));
        Checks.refuses("P12: the site is told first", Checks.INDEX, () -> x.layers(-1, 2));
    }

    private static void oldest() {
        FrostTubes x = new FrostTubes();
        x.set(0, 0);
        x.site();
        x.site();
        x.days(-30, 0, 1);
        x.days(18, 0, 1);
        x.days(-15, 0, 1);
        x.site();
        x.days(7, 0, 1);
        x.days(-9, 0, 1);
        // Since day 1: 4 at the sites 0 and 1; since 3: 2; since 5: 0 and 1 at the sites 0, 1 and 2.
        int[] due = {4, 104, 2, 102, 0, 1, 100, 101, 200, 201};
        for (int rank = 0; rank < due.length; rank++) {
            Checks.is("P13: rank " + rank, due[rank], x.oldest(rank));
        }
        Checks.refuses("P13: rank 10", Checks.INDEX, () -> x.oldest(10));
        Checks.refuses("P13: rank -1", Checks.INDEX, () -> x.oldest(-1));
        Checks.refuses("P13: greatest int", Checks.INDEX, () -> x.oldest(Integer.MAX_VALUE));
        FrostTubes all = new FrostTubes();
        all.set(0, 0);
        for (int s = 0; s < 4; s++) {
            all.site();
        }
        all.days(-30, 0, 20);
        Checks.is("P13: all cells: the last", 329, all.oldest(119));
        Checks.refuses("P13: all cells: one more", Checks.INDEX, () -> all.oldest(120));
    }

    /** As many sites, tubes and pipes as there can be, in as much frost. */
    private static void fullObject() {
        FrostTubes x = new FrostTubes();
        x.set(0, 0);
        for (int s = 0; s < 4; s++) {
            x.site();
            x.tube(s, 30);
            x.tube(s, 1);
            x.pipe(s, 29);
            x.pipe(s, 0);
        }
        x.days(-30, 0, 20);
        int[] due = {4, 8, 8, 20, 120, 4, 0, 0, 80, 0, 2, 10};
        for (int what = 0; what < due.length; what++) {
            Checks.is("P6: full, about " + what, due[what], x.about(what));
        }
        Checks.is("P27: full", 0, x.deepest());
        Checks.is("P10: the last tube", 1, x.tubeOf(7, 2));
        Checks.is("P11: the last pipe", 10, x.pipeOf(7, 2));
        Checks.is("P26: the last pipe", 5, x.heaveIn(7, 30, 1));
        Checks.is("P20: full", 600, x.winter());
        x.days(30, 0, 18);
        Checks.is("P19: 525 of 540 thaw all", 0, x.about(4));
        Checks.is("P6: each pipe sunk", 40, x.about(8));
    }

    private static void readingChangesNothing() {
        Checks.changesNothing("P6 to P13: reading", () -> fullGround(), x -> {
            Looks.state(x);
            return x.layers(0, 0) + x.layers(0, 1) + x.oldest(0) + x.layerOf(0, 0, 3);
        });
        Checks.refusesAndChangesNothing("P6: about(12)", Checks.ARGUMENT, () -> fullGround(), x -> x.about(12));
        Checks.refusesAndChangesNothing("P7: site 4", Checks.INDEX, () -> fullGround(), x -> x.siteOf(4, 0));
        Checks.refusesAndChangesNothing("P13: rank", Checks.INDEX, () -> fullGround(), x -> x.oldest(99));
    }

    private static FrostTubes fullGround() {
        FrostTubes x = Looks.threeLayers();
        x.tube(0, 3);
        x.pipe(0, 7);
        x.save(0);
        x.days(-20, 3, 2);
        return x;
    }
}
