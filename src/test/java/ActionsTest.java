/** Promises 14 to 22, and what a day does. */
public final class ActionsTest {
    public static void main(String[] args) {
        site();
        tube();
        pipe();
        fence();
        shovel();
        snowOfADay();
        warmthOfADay();
        coldOfADay();
        freezing();
        thawing();
        thawFromBelow();
        heaves();
        daysRefused();
        daysRunOut();
        winter();
        set();
        undo();
        undoOfEachAction();
        Checks.finish("ActionsTest");
    }

    private static FrostTubes ground(int sites) {
        FrostTubes x = new FrostTubes();
        x.set(0, 0);
        for (int s = 0; s < sites; s++) {
            x.site();
        }
        return x;
    }

    private static void siteIs(String what, FrostTubes x, int snow, int cold, int warmth, int sum, int frozen) {
        Checks.is(what + ": snow", snow, x.siteOf(0, 0));
        Checks.is(what + ": cold", cold, x.siteOf(0, 2));
        Checks.is(what + ": warmth", warmth, x.siteOf(0, 3));
        Checks.is(what + ": sum of cold", sum, x.siteOf(0, 4));
        Checks.is(what + ": frozen", frozen, x.siteOf(0, 5));
    }

    private static void site() {
        FrostTubes x = ground(0);
        x.days(-30, 9, 3);
        for (int s = 0; s < 4; s++) {
            Checks.is("P14: number", s, x.site());
            Checks.is("P14: sites", s + 1, x.about(0));
        }
        siteIs("P14: days before it are nothing to it", x, 0, 0, 0, 0, 0);
        Checks.refuses("P14: a fifth", Checks.STATE, () -> x.site());
        Checks.refusesAndChangesNothing("P14: a fifth", Checks.STATE, () -> ground(4), y -> y.site());
    }

    private static void tube() {
        FrostTubes x = ground(2);
        int[] lengths = {1, 30, 15, 1, 2, 3, 4, 5};
        for (int t = 0; t < 8; t++) {
            Checks.is("P15: number", t, x.tube(t % 2, lengths[t]));
        }
        for (int t = 0; t < 8; t++) {
            Checks.is("P15: site", t % 2, x.tubeOf(t, 0));
            Checks.is("P15: length", lengths[t], x.tubeOf(t, 1));
        }
        Checks.refuses("P15: a ninth", Checks.STATE, () -> x.tube(0, 1));
        Checks.refuses("P15: length 0 is told before that", Checks.ARGUMENT, () -> x.tube(0, 0));
        Checks.refuses("P15: length 31 is told before that", Checks.ARGUMENT, () -> x.tube(0, 31));
        Checks.refuses("P15: site 2 is told first", Checks.INDEX, () -> x.tube(2, 0));
        Checks.refuses("P15: site -1 is told first", Checks.INDEX, () -> x.tube(-1, 31));
        Checks.refusesAndChangesNothing("P15: length 0", Checks.ARGUMENT, () -> ground(1), y -> y.tube(0, 0));
        Checks.refusesAndChangesNothing("P15: length 31", Checks.ARGUMENT, () -> ground(1), y -> y.tube(0, 31));
        Checks.refusesAndChangesNothing("P15: site 1", Checks.INDEX, () -> ground(1), y -> y.tube(1, 5));
    }

    private static void pipe() {
        FrostTubes x = ground(2);
        for (int p = 0; p < 7; p++) {
            Checks.is("P16: number", p, x.pipe(p % 2, 29 - p));
        }
        x.days(-4, 0, 1);
        Checks.refuses("P16: cell 0 is frozen", Checks.STATE, () -> x.pipe(0, 0));
        Checks.is("P16: cell 1 is not", 7, x.pipe(1, 1));
        Checks.refuses("P16: a ninth", Checks.STATE, () -> x.pipe(0, 2));
        Checks.refuses("P16: cell 30 is told first", Checks.INDEX, () -> x.pipe(0, 30));
        Checks.refuses("P16: cell -1 is told first", Checks.INDEX, () -> x.pipe(0, -1));
        Checks.refuses("P16: site 2 is told first", Checks.INDEX, () -> x.pipe(2, 0));
        Checks.refuses("P16: site -1", Checks.INDEX, () -> x.pipe(-1, 0));
        for (int p = 0; p < 7; p++) {
            Checks.is("P16: site", p % 2, x.pipeOf(p, 0));
            Checks.is("P16: cell", 29 - p, x.pipeOf(p, 1));
            Checks.is("P16: heave", 0, x.pipeOf(p, 2));
        }
        Checks.refusesAndChangesNothing("P16: frozen", Checks.STATE, () -> Looks.threeLayers(), y -> y.pipe(0, 4));
        Checks.refusesAndChangesNothing("P16: cell 30", Checks.INDEX, () -> ground(1), y -> y.pipe(0, 30));
    }

    private static void fence() {
        FrostTubes x = ground(2);
        Checks.is("P17: at first 0", 0, x.fence(1, 20));
        Checks.is("P17: that before", 20, x.fence(1, 0));
        Checks.is("P17: 0 now", 0, x.fence(1, 7));
        Checks.is("P17: of this site alone", 0, x.fence(0, 3));
        Checks.is("P17: stands", 7, x.siteOf(1, 1));
        Checks.refuses("P17: 21", Checks.ARGUMENT, () -> x.fence(0, 21));
        Checks.refuses("P17: -1", Checks.ARGUMENT, () -> x.fence(0, -1));
        Checks.refuses("P17: the site is told first", Checks.INDEX, () -> x.fence(2, 21));
        Checks.refuses("P17: site -1", Checks.INDEX, () -> x.fence(-1, 0));
        Checks.refusesAndChangesNothing("P17: 21", Checks.ARGUMENT, () -> ground(1), y -> y.fence(0, 21));
        Checks.refusesAndChangesNothing("P17: site 1", Checks.INDEX, () -> ground(1), y -> y.fence(1, 2));
    }

    private static void shovel() {
        FrostTubes x = ground(2);
        x.days(0, 12, 1);
        Checks.is("P18: the snow that there was", 12, x.shovel(1));
        Checks.is("P18: none now", 0, x.siteOf(1, 0));
        Checks.is("P18: of this site alone", 12, x.siteOf(0, 0));
        Checks.is("P18: none is taken off", 0, x.shovel(1));
        Checks.refuses("P18: site 2", Checks.INDEX, () -> x.shovel(2));
        Checks.refuses("P18: site -1", Checks.INDEX, () -> x.shovel(-1));
        Checks.refusesAndChangesNothing("P18: site 1", Checks.INDEX, () -> ground(1), y -> y.shovel(1));
    }

    private static void snowOfADay() {
        FrostTubes x = ground(2);
        x.fence(0, 5);
        x.days(0, 8, 1);
        Checks.is("P19: the fence catches its height", 13, x.siteOf(0, 0));
        Checks.is("P19: without a fence", 8, x.siteOf(1, 0));
        x.days(0, 3, 1);
        Checks.is("P19: the fence catches as much as falls", 19, x.siteOf(0, 0));
        x.days(0, 30, 2);
        Checks.is("P19: 89", 89, x.siteOf(0, 0));
        Checks.is("P19: 71", 71, x.siteOf(1, 0));
        x.days(0, 5, 1);
        Checks.is("P19: 99 at most", 99, x.siteOf(0, 0));
        x.days(0, 30, 60);
        Checks.is("P19: 99 at most", 99, x.siteOf(1, 0));
        siteIs("P19: at 0 degrees neither is stored", x, 99, 0, 0, 0, 0);
    }

    private static void warmthOfADay() {
        FrostTubes x = ground(1);
        x.days(0, 13, 1);
        x.days(-7, 0, 1);
        siteIs("P19: 70 / 23", x, 13, 3, 0, 3, 0);
        x.days(5, 0, 1);
        siteIs("P19: 10 melt, 3 are left: no warmth, and no cold any more", x, 3, 0, 0, 3, 0);
        x.days(5, 0, 1);
        siteIs("P19: 5 - 3 / 2", x, 0, 0, 4, 3, 0);
        x.days(5, 10, 1);
        siteIs("P19: 5 - 10 / 2", x, 0, 0, 4, 3, 0);
        x.days(5, 11, 1);
        siteIs("P19: one is left", x, 1, 0, 4, 3, 0);
        x.set(1, 9);
        x.days(30, 7, 1);
        siteIs("P19: 30 - 8 / 9", x, 0, 0, 34, 3, 0);
        x.days(0, 0, 5);
        siteIs("P19: 0 degrees keep it", x, 0, 0, 34, 3, 0);
        x.days(-1, 30, 1);
        siteIs("P19: frost takes it, also frost of no cold", x, 30, 0, 0, 3, 0);
    }

    private static void coldOfADay() {
        FrostTubes x = ground(1);
        x.days(-3, 0, 1);
        siteIs("P19: 3 of cold", x, 0, 3, 0, 3, 0);
        x.days(0, 0, 3);
        siteIs("P19: 0 degrees keep it", x, 0, 3, 0, 3, 0);
        x.days(1, 0, 1);
        siteIs("P19: warmth takes it", x, 0, 0, 1, 3, 0);
        x.days(-30, 20, 1);
        siteIs("P19: the new snow keeps off: 300 / 30 freeze 0 and 1", x, 20, 1, 0, 13, 2);
        x.days(-30, 1, 1);
        siteIs("P19: 300 / 31, rounded down, freeze 2", x, 21, 4, 0, 22, 3);
    }

    private static void freezing() {
        FrostTubes x = ground(1);
        Checks.is("P19: 4, 5, 6, 7 and 8 are 30", 5, x.days(-30, 0, 1));
        siteIs("P19: nothing stays", x, 0, 0, 0, 30, 5);
        x.days(12, 0, 1);
        Checks.is("P19: from the top, not going on below", 3, x.days(-4, 0, 1));
        Checks.is("P19: cell 0", 3, x.since(0, 0));
        Checks.is("P19: cell 1", FrostTubes.NONE, x.since(0, 1));
        Checks.is("P19: 555 freeze all", 30, x.days(-30, 0, 19));
        Checks.is("P19: the lowest", 29, x.siteOf(0, 7));
        int stored = x.siteOf(0, 2);
        x.days(-30, 0, 2);
        Checks.is("P19: what is not used is stored", stored + 60, x.siteOf(0, 2));
        x.site();
        Checks.is("P19: of all sites", 35, x.days(-30, 0, 1));
        Checks.is("P19: without sites", 0, new FrostTubes().days(-30, 0, 60));
    }

    private static void thawing() {
        FrostTubes x = ground(1);
        x.days(-30, 0, 1);
        Checks.is("P19: 2 are too little", 5, x.days(2, 0, 1));
        Checks.is("P19: 3 thaw 0", 4, x.days(1, 0, 1));
        siteIs("P19: nothing stays", x, 0, 0, 0, 30, 4);
        Checks.is("P19: 4 + 5 thaw 1 and 2", 2, x.days(9, 0, 1));
        Checks.is("P19: 13 thaw 3 and 4", 0, x.days(14, 0, 1));
        siteIs("P19: what is not used is stored", x, 0, 0, 1, 30, 0);
    }

    private static void thawFromBelow() {
        FrostTubes x = new FrostTubes();
        x.site();
        Checks.is("P19: 0 to 11 behind 4 days", 12, x.days(-30, 0, 4));
        Checks.is("P19: 12 and 13 freeze on day 5, 13 thaws", 13, x.days(-30, 0, 1));
        Checks.is("P19: stored", 3, x.siteOf(0, 2));
        Checks.is("P19: on day 10", 12, x.days(0, 0, 5));
        Checks.is("P19: not on day 14", 12, x.days(0, 0, 4));
        x.set(0, 0);
        Checks.is("P19: never", 12, x.days(0, 0, 60));
        x.set(0, 30);
        Checks.is("P19: day 90 is one of the days 75 to 90", 11, x.days(0, 0, 16));
        x.set(0, 1);
        Checks.is("P19: each day", 2, x.days(0, 0, 9));
        Checks.is("P19: from above and from below", 0, x.days(3, 0, 1));
        Checks.is("P19: nothing is frozen", 0, x.days(0, 0, 3));
        FrostTubes cold = new FrostTubes();
        cold.set(0, 2);
        cold.site();
        cold.days(-30, 0, 60);
        Checks.is("P19: 29 thaws on even days", 29, cold.about(4));
        Checks.is("P19: with much stored, 0 degrees refreeze it", 30, cold.days(0, 0, 1));
        Checks.is("P19: on that day", 61, cold.since(0, 29));
    }

    private static void heaves() {
        FrostTubes x = ground(2);
        x.set(2, 7);
        x.pipe(0, 0);
        x.pipe(0, 0);
        x.pipe(1, 1);
        x.days(-4, 0, 1);
        Checks.is("P19: each pipe in the cell", 7, x.pipeOf(0, 2));
        Checks.is("P19: each pipe in the cell", 7, x.pipeOf(1, 2));
        Checks.is("P19: not in another cell", 0, x.pipeOf(2, 2));
        x.days(3, 0, 1);
        Checks.is("P19: 7 sink by 3", 4, x.pipeOf(0, 2));
        x.set(0, 1);
        x.set(2, 50);
        x.days(-9, 0, 1);
        Checks.is("P19: 4 + 50", 54, x.pipeOf(0, 2));
        Checks.is("P19: freezes and thaws from below on one day", 25, x.pipeOf(2, 2));
        Checks.is("P19: greatest", 50, x.pipeOf(2, 3));
        Checks.is("P19: all together", 54 + 54 + 25, x.about(8));
        x.set(2, 0);
        x.days(0, 0, 1);
        x.days(-4, 0, 1);
        Checks.is("P19: heaved by 0, and sunk two times", 14, x.pipeOf(0, 2));
        Checks.is("P19: by 0 counts", 3, x.pipeOf(0, 4));
    }

    private static void daysRefused() {
        FrostTubes x = ground(1);
        int[][] bad = {{-31, 0, 1}, {31, 0, 1}, {0, -1, 1}, {0, 31, 1}, {0, 0, 0}, {0, 0, 61}, {0, 0, -1},
            {Integer.MIN_VALUE, 0, 1}, {0, Integer.MAX_VALUE, 1}, {0, 0, Integer.MAX_VALUE}};
        for (int[] row : bad) {
            Checks.refuses("P19: bad days", Checks.ARGUMENT, () -> x.days(row[0], row[1], row[2]));
            Checks.refusesAndChangesNothing("P19: bad days", Checks.ARGUMENT, () -> Looks.threeLayers(),
                    y -> y.days(row[0], row[1], row[2]));
        }
        Checks.is("P19: the ends of the ranges", 0, x.days(30, 30, 60));
        Checks.is("P19: the ends of the ranges", 60, x.about(3));
    }

    private static FrostTubes oldGround() {
        FrostTubes x = ground(1);
        for (int i = 0; i < 166; i++) {
            x.days(0, 0, 60);
        }
        x.days(-30, 0, 38);
        return x;
    }

    private static void daysRunOut() {
        FrostTubes x = oldGround();
        Checks.is("P19: days", 9998, x.about(3));
        Checks.refuses("P19: 10000", Checks.STATE, () -> x.days(0, 0, 2));
        Checks.refuses("P19: a bad argument is told first", Checks.ARGUMENT, () -> x.days(0, 31, 2));
        Checks.is("P19: 9999", 30, x.days(0, 0, 1));
        Checks.refuses("P19: 10000", Checks.STATE, () -> x.days(0, 0, 1));
        Checks.is("P19: stays", 9999, x.about(3));
        Checks.refusesAndChangesNothing("P19: 10000", Checks.STATE, () -> oldGround(), y -> y.days(0, 0, 2));
    }

    private static void winter() {
        FrostTubes x = ground(0);
        Checks.is("P20: without sites", 0, x.winter());
        Checks.is("P20: counted all the same", 1, x.about(6));
        x.site();
        x.days(-10, 0, 2);
        x.site();
        x.days(-7, 0, 1);
        Checks.is("P20: the greatest", 27, x.winter());
        Checks.is("P20: 0 then", 0, x.siteOf(0, 4));
        Checks.is("P20: 0 then, each", 0, x.siteOf(1, 4));
        Checks.is("P6: the greatest so far", 27, x.about(7));
        Checks.is("P20: cells stay", 5, x.about(4));
        x.days(-9, 0, 1);
        Checks.is("P20: only since then", 9, x.winter());
        Checks.is("P6: the greatest so far stays", 27, x.about(7));
        Checks.is("P6: winters", 3, x.about(6));
        x.days(-28, 0, 1);
        Checks.is("P6: only at winter()", 27, x.about(7));
        x.winter();
        Checks.is("P6: greater now", 28, x.about(7));
    }

    private static void set() {
        FrostTubes x = new FrostTubes();
        Checks.is("P21: setting 0", 5, x.set(0, 30));
        Checks.is("P21: setting 1", 2, x.set(1, 9));
        Checks.is("P21: setting 2", 10, x.set(2, 50));
        Checks.is("P21: setting 0", 30, x.set(0, 0));
        Checks.is("P21: setting 1", 9, x.set(1, 1));
        Checks.is("P21: setting 2", 50, x.set(2, 0));
        Checks.is("P21: told", 0, x.about(9));
        Checks.is("P21: told", 1, x.about(10));
        Checks.is("P21: told", 0, x.about(11));
        int[][] bad = {{-1, 1}, {3, 1}, {0, -1}, {0, 31}, {1, 0}, {1, 10}, {2, -1}, {2, 51},
            {Integer.MIN_VALUE, 0}, {Integer.MAX_VALUE, 0}};
        for (int[] row : bad) {
            Checks.refusesAndChangesNothing("P21: set(" + row[0] + ", " + row[1] + ")", Checks.ARGUMENT,
                    () -> Looks.threeLayers(), y -> y.set(row[0], row[1]));
        }
    }

    private static void undo() {
        FrostTubes x = new FrostTubes();
        Checks.refuses("P22: nothing yet", Checks.STATE, () -> x.undo());
        for (int v = 1; v <= 20; v++) {
            x.set(2, v);
        }
        for (int left = 13; left >= 0; left--) {
            Checks.is("P22: still remembered", left, x.undo());
            Checks.is("P22: the value before", 6 + left, x.about(11));
        }
        Checks.refuses("P22: 14 and no more", Checks.STATE, () -> x.undo());
        Checks.is("P22: stays", 6, x.about(11));
        x.set(2, 40);
        x.set(2, 41);
        Checks.is("P22: one", 1, x.undo());
        x.set(2, 42);
        Checks.is("P22: one", 1, x.undo());
        Checks.is("P22: 40", 40, x.about(11));
        Checks.is("P22: none", 0, x.undo());
        Checks.is("P22: 6", 6, x.about(11));
        Checks.refusesAndChangesNothing("P22: nothing", Checks.STATE, () -> Looks.loaded("Dss"), y -> y.undo());
    }

    private static void undoOfEachAction() {
        undoes("P22: site", x -> x.site());
        undoes("P22: tube", x -> x.tube(0, 9));
        undoes("P22: pipe", x -> x.pipe(0, 29));
        undoes("P22: fence", x -> x.fence(0, 9));
        undoes("P22: the same fence", x -> x.fence(0, x.siteOf(0, 1)));
        undoes("P22: shovel", x -> x.shovel(0));
        undoes("P22: shovel of nothing", x -> x.shovel(1));
        undoes("P22: days", x -> x.days(-30, 3, 9));
        undoes("P22: warm days", x -> x.days(30, 0, 9));
        undoes("P22: winter", x -> x.winter());
        undoes("P22: set", x -> x.set(1, 4));
        undoes("P22: the same setting", x -> x.set(1, 2));
        FrostTubes x = rich();
        x.append('D');
        x.save(1);
        x.shovel(0);
        x.undo();
        Checks.is("P22: the text is no part of the state", 1, x.clearText());
        Checks.is("P22: nor are the save slots", x.about(3), x.restore(1));
    }

    private static FrostTubes rich() {
        FrostTubes x = Looks.threeLayers();
        x.tube(0, 3);
        x.pipe(0, 3);
        x.days(-10, 4, 2);
        x.site();
        return x;
    }

    private static void undoes(String what, Checks.Use use) {
        FrostTubes x = rich();
        String before = Looks.state(x);
        use.answer(x);
        Checks.is(what + ": remembered", 11, x.undo());
        Checks.same(what, before, Looks.state(x));
    }
}
