/** The boundary cases of the sections SETTINGS and ACTIONS AND UNDO and of the promises 14 to 22. */
public final class ActionEdgesTest {
    private static final int[] FAR = {Integer.MIN_VALUE, Integer.MAX_VALUE};

    public static void main(String[] args) {
        Checks.sentence("SETTINGS", "0: the days from one thaw from below to the next one, 0 (never) to 30, at "
                + "first 5", () -> settingIs(0, 5, 0, 30));
        Checks.sentence("SETTINGS", "1: how much snow a degree melts, 1 to 9, at first 2", () -> settingIs(1, 2, 1, 9));
        Checks.sentence("SETTINGS", "2: by how much a pipe is heaved, 0 to 50, at first 10",
                () -> settingIs(2, 10, 0, 50));
        Checks.sentence("ACTIONS AND UNDO", "The methods in the section \"actions\" change the state, which "
                + "consists of everything but the text and the save slots.", ActionEdgesTest::state);
        Checks.sentence("ACTIONS AND UNDO", "Each call of one of them that does not throw an exception is an action",
                ActionEdgesTest::eachIsAnAction);
        Checks.sentence("ACTIONS AND UNDO", "also if nothing becomes different", ActionEdgesTest::nothingDifferent);
        Checks.sentence("ACTIONS AND UNDO", "(undo is none)", ActionEdgesTest::undoIsNone);
        Checks.sentence("ACTIONS AND UNDO", "Before each action, the state is remembered.",
                ActionEdgesTest::rememberedBefore);
        Checks.sentence("ACTIONS AND UNDO", "At most 14 states are remembered", ActionEdgesTest::fourteen);
        Checks.sentence("ACTIONS AND UNDO", "when one more is remembered, the oldest one is forgotten",
                ActionEdgesTest::oldestForgotten);
        Checks.sentence("ACTIONS AND UNDO", "load and restore are not actions.", ActionEdgesTest::loadAndRestore);
        Checks.sentence("P14", "Adds a site. Returns its number.", ActionEdgesTest::site);
        Checks.sentence("P14", "if there are 4", ActionEdgesTest::fourSites);
        Checks.sentence("P15", "length: 1 to 30", ActionEdgesTest::tubeLength);
        Checks.sentence("P15", "if there is no such site", ActionEdgesTest::tubeSite);
        Checks.sentence("P15", "if there are 8", ActionEdgesTest::eightTubes);
        Checks.sentence("P16", "if there is no such site or cell", ActionEdgesTest::pipePlace);
        Checks.sentence("P16", "if the cell is frozen, or there are 8 pipes", ActionEdgesTest::pipeRefused);
        Checks.sentence("P17", "height: 0 to 20", ActionEdgesTest::fenceHeight);
        Checks.sentence("P17", "Returns the height that it had.", ActionEdgesTest::fenceBefore);
        Checks.sentence("P17", "if there is no such site", ActionEdgesTest::fenceSite);
        Checks.sentence("P18", "Returns the snow that there was.", ActionEdgesTest::shovel);
        Checks.sentence("P18", "if there is no such site", ActionEdgesTest::shovelSite);
        Checks.sentence("P19", "t: -30 to 30: the temperature of each", ActionEdgesTest::daysTemperature);
        Checks.sentence("P19", "snow: 0 to 30: the new snow of each", ActionEdgesTest::daysSnow);
        Checks.sentence("P19", "n: 1 to 60: how many", ActionEdgesTest::daysNumber);
        Checks.sentence("P19", "Returns how many cells of all sites are frozen then.", ActionEdgesTest::daysAnswer);
        Checks.sentence("P19", "if the days would be above 9999", ActionEdgesTest::lastDay);
        Checks.sentence("P20", "Begins a winter: the sum of cold of each site is 0 then.",
                ActionEdgesTest::sumsAreZero);
        Checks.sentence("P20", "Returns the greatest sum of cold that a site had; 0 without sites.",
                ActionEdgesTest::winterAnswer);
        Checks.sentence("P21", "what: 0 to 2", ActionEdgesTest::setWhat);
        Checks.sentence("P21", "v: the new value, in its range", ActionEdgesTest::setValue);
        Checks.sentence("P21", "Returns the previous one.", ActionEdgesTest::setAnswer);
        Checks.sentence("P22", "Returns how many states are still remembered.", ActionEdgesTest::stillRemembered);
        Checks.sentence("P22", "if none is remembered", ActionEdgesTest::noneRemembered);
        Checks.finish("ActionEdgesTest");
    }

    private static void settingIs(int what, int first, int least, int most) {
        FrostTubes x = new FrostTubes();
        Checks.is("at first", first, x.about(9 + what));
        Checks.is("the least", first, x.set(what, least));
        Checks.is("is set", least, x.about(9 + what));
        Checks.refuses("one less", Checks.ARGUMENT, () -> x.set(what, least - 1));
        Checks.is("the greatest", least, x.set(what, most));
        Checks.is("is set", most, x.about(9 + what));
        Checks.refuses("one more", Checks.ARGUMENT, () -> x.set(what, most + 1));
        Checks.is("stays", most, x.about(9 + what));
        for (int v = least; v <= most; v++) {
            x.set(what, v);
            Checks.is("any between", v, x.about(9 + what));
        }
    }

    private static final Checks.Use[] ACTIONS = {
        x -> x.site(), x -> x.tube(0, 30), x -> x.pipe(1, 29), x -> x.fence(0, 20), x -> x.shovel(1),
        x -> x.days(-30, 30, 60), x -> x.days(30, 0, 1), x -> x.winter(), x -> x.set(0, 30), x -> x.set(1, 9),
        x -> x.set(2, 50),
    };

    private static void state() {
        FrostTubes x = Grounds.half();
        x.winter();
        x.append('w');
        x.save(0);
        x.undo();
        Checks.is("the text stays as it was typed", 19, x.clearText());
        Checks.is("the slot is full", 7, x.restore(0));
        Checks.is("with what was saved", 1, x.about(6));
        String before = Looks.state(Grounds.half());
        for (int i = 0; i < ACTIONS.length; i++) {
            FrostTubes y = Grounds.half();
            ACTIONS[i].answer(y);
            y.undo();
            Checks.same("taken back: action " + i, before, Looks.state(y));
        }
    }

    private static void eachIsAnAction() {
        for (int i = 0; i < ACTIONS.length; i++) {
            FrostTubes x = Grounds.half();
            ACTIONS[i].answer(x);
            Checks.is("besides three before it: action " + i, 3, x.undo());
        }
        FrostTubes none = Grounds.half();
        Checks.refuses("one that throws", Checks.ARGUMENT, () -> none.set(0, 31));
        Checks.is("is none", 2, none.undo());
    }

    private static void nothingDifferent() {
        Checks.Use[] idle = {x -> x.fence(1, 5), x -> x.fence(0, 0), x -> x.shovel(2), x -> x.set(0, 0),
            x -> x.set(1, 3), x -> x.set(2, 10)};
        for (int i = 0; i < idle.length; i++) {
            Checks.Use use = idle[i];
            String before = Looks.state(halfAndASite());
            FrostTubes x = halfAndASite();
            use.answer(x);
            Checks.same("nothing is different: " + i, before, Looks.state(x));
            FrostTubes y = halfAndASite();
            use.answer(y);
            Checks.is("it is remembered all the same: " + i, 4, y.undo());
            Checks.same("and taken back: " + i, before, Looks.state(y));
        }
    }

    private static FrostTubes halfAndASite() {
        FrostTubes x = Grounds.half();
        x.site();
        return x;
    }

    private static void undoIsNone() {
        FrostTubes x = Grounds.half();
        Checks.is("two are left", 2, x.undo());
        Checks.is("one is left", 1, x.undo());
        Checks.is("none is left", 0, x.undo());
        Checks.refuses("and none comes back", Checks.STATE, () -> x.undo());
    }

    private static void rememberedBefore() {
        FrostTubes x = new FrostTubes();
        x.set(2, 1);
        x.undo();
        Checks.is("the state before the first action", 10, x.about(11));
        x.set(2, 2);
        x.set(2, 3);
        x.undo();
        Checks.is("the state before the last action", 2, x.about(11));
    }

    /** The settings 1 to n, one behind the other. */
    private static FrostTubes settings(int n) {
        FrostTubes x = new FrostTubes();
        for (int v = 1; v <= n; v++) {
            x.set(2, v);
        }
        return x;
    }

    private static void fourteen() {
        FrostTubes x = settings(14);
        for (int left = 13; left >= 0; left--) {
            Checks.is("left", left, x.undo());
        }
        Checks.is("the state before all of them", 10, x.about(11));
        Checks.refuses("a fifteenth", Checks.STATE, () -> x.undo());
        FrostTubes less = settings(13);
        Checks.is("13 are 13", 12, less.undo());
    }

    private static void oldestForgotten() {
        for (int n = 15; n <= 45; n++) {
            FrostTubes x = settings(n);
            for (int left = 13; left >= 0; left--) {
                Checks.is("left", left, x.undo());
                Checks.is("the state then", n - 14 + left, x.about(11));
            }
            Checks.refuses("the one before is forgotten", Checks.STATE, () -> x.undo());
            Checks.is("it stays so", n - 14, x.about(11));
        }
    }

    private static void loadAndRestore() {
        FrostTubes x = Grounds.half();
        x.load();
        Checks.refuses("load", Checks.STATE, () -> x.undo());
        FrostTubes y = Grounds.half();
        y.restore(1);
        Checks.refuses("restore", Checks.STATE, () -> y.undo());
    }

    private static void site() {
        FrostTubes x = new FrostTubes();
        for (int s = 0; s < 4; s++) {
            Checks.is("number", s, x.site());
        }
        x.undo();
        Checks.is("the number of one that was taken back", 3, x.site());
    }

    private static void fourSites() {
        FrostTubes x = Grounds.bare(3);
        Checks.is("the fourth", 3, x.site());
        Checks.refuses("the fifth", Checks.STATE, () -> x.site());
        Checks.refusesAndChangesNothing("the fifth", Checks.STATE, Grounds::full, y -> y.site());
    }

    private static void tubeLength() {
        FrostTubes x = Grounds.bare(1);
        x.tube(0, 1);
        x.tube(0, 30);
        Checks.is("1", 1, x.tubeOf(0, 1));
        Checks.is("30", 30, x.tubeOf(1, 1));
        for (int length : new int[] {0, 31, -1, FAR[0], FAR[1]}) {
            Checks.refusesAndChangesNothing("length " + length, Checks.ARGUMENT, Grounds::half, y -> y.tube(0, length));
        }
    }

    private static void tubeSite() {
        FrostTubes x = Grounds.bare(4);
        Checks.is("the last site", 0, x.tube(3, 5));
        for (int s : new int[] {2, -1, FAR[0], FAR[1]}) {
            Checks.refusesAndChangesNothing("site " + s, Checks.INDEX, Grounds::half, y -> y.tube(s, 5));
        }
        Checks.refuses("before a bad length", Checks.INDEX, () -> x.tube(4, 31));
        Checks.refuses("before a bad length", Checks.INDEX, () -> x.tube(-1, 0));
        FrostTubes full = Grounds.full();
        Checks.refuses("before too many", Checks.INDEX, () -> full.tube(4, 5));
        Checks.refuses("before both", Checks.INDEX, () -> full.tube(4, 0));
    }

    private static void eightTubes() {
        FrostTubes x = Grounds.bare(1);
        for (int t = 0; t < 8; t++) {
            Checks.is("number", t, x.tube(0, 5));
        }
        Checks.refuses("the ninth", Checks.STATE, () -> x.tube(0, 5));
        Checks.refusesAndChangesNothing("the ninth", Checks.STATE, Grounds::full, y -> y.tube(0, 5));
        Checks.refuses("a bad length is told before", Checks.ARGUMENT, () -> x.tube(0, 31));
        Checks.refuses("a bad length is told before", Checks.ARGUMENT, () -> x.tube(0, 0));
    }

    private static void pipePlace() {
        FrostTubes x = Grounds.bare(4);
        Checks.is("the last cell of the last site", 0, x.pipe(3, 29));
        Checks.is("the first cell of the first site", 1, x.pipe(0, 0));
        for (int far : new int[] {2, -1, FAR[0], FAR[1]}) {
            Checks.refusesAndChangesNothing("site " + far, Checks.INDEX, Grounds::half, y -> y.pipe(far, 5));
        }
        for (int far : new int[] {30, -1, FAR[0], FAR[1]}) {
            Checks.refusesAndChangesNothing("cell " + far, Checks.INDEX, Grounds::half, y -> y.pipe(0, far));
        }
        FrostTubes full = Grounds.full();
        Checks.refuses("before too many", Checks.INDEX, () -> full.pipe(4, 29));
        Checks.refuses("before too many", Checks.INDEX, () -> full.pipe(0, 30));
        Checks.refuses("before too many", Checks.INDEX, () -> full.pipe(0, -1));
    }

    private static void pipeRefused() {
        FrostTubes x = Grounds.freeze(Grounds.bare(2), Grounds.COLD_TO[28]);
        Checks.refuses("cell 0 is frozen", Checks.STATE, () -> x.pipe(0, 0));
        Checks.refuses("cell 28 is frozen", Checks.STATE, () -> x.pipe(1, 28));
        for (int p = 0; p < 8; p++) {
            Checks.is("cell 29 is not", p, x.pipe(p % 2, 29));
        }
        Checks.refuses("the ninth", Checks.STATE, () -> x.pipe(0, 29));
        Checks.refuses("the ninth, in a frozen cell", Checks.STATE, () -> x.pipe(0, 0));
        Checks.refusesAndChangesNothing("frozen", Checks.STATE, Grounds::half, y -> y.pipe(0, 0));
        Checks.refusesAndChangesNothing("the ninth", Checks.STATE, Grounds::full, y -> y.pipe(0, 29));
        FrostTubes thawed = Grounds.freeze(Grounds.bare(1), 4);
        thawed.days(3, 0, 1);
        Checks.is("thawed again", 0, thawed.pipe(0, 0));
    }

    private static void fenceHeight() {
        FrostTubes x = Grounds.bare(1);
        x.fence(0, 20);
        Checks.is("20", 20, x.siteOf(0, 1));
        x.fence(0, 0);
        Checks.is("0", 0, x.siteOf(0, 1));
        for (int height : new int[] {21, -1, FAR[0], FAR[1]}) {
            Checks.refusesAndChangesNothing("height " + height, Checks.ARGUMENT, Grounds::half,
                    y -> y.fence(1, height));
        }
    }

    private static void fenceBefore() {
        FrostTubes x = Grounds.bare(2);
        Checks.is("at first", 0, x.fence(1, 20));
        Checks.is("20", 20, x.fence(1, 20));
        Checks.is("20 again", 20, x.fence(1, 0));
        Checks.is("0", 0, x.fence(1, 1));
        Checks.is("of the other site", 0, x.fence(0, 1));
    }

    private static void fenceSite() {
        FrostTubes x = Grounds.bare(4);
        Checks.is("the last site", 0, x.fence(3, 5));
        Checks.refuses("before a bad height", Checks.INDEX, () -> x.fence(4, 21));
        Checks.refuses("before a bad height", Checks.INDEX, () -> x.fence(-1, -1));
        for (int s : new int[] {2, -1, FAR[0], FAR[1]}) {
            Checks.refusesAndChangesNothing("site " + s, Checks.INDEX, Grounds::half, y -> y.fence(s, 5));
        }
    }

    private static void shovel() {
        FrostTubes x = Grounds.bare(2);
        Checks.is("none", 0, x.shovel(0));
        x.days(0, 30, 4);
        Checks.is("as much as there can be", 99, x.shovel(0));
        Checks.is("none any more", 0, x.siteOf(0, 0));
        Checks.is("none again", 0, x.shovel(0));
        Checks.is("the other site keeps it", 99, x.siteOf(1, 0));
    }

    private static void shovelSite() {
        FrostTubes x = Grounds.bare(4);
        Checks.is("the last site", 0, x.shovel(3));
        for (int s : new int[] {2, -1, FAR[0], FAR[1]}) {
            Checks.refusesAndChangesNothing("site " + s, Checks.INDEX, Grounds::half, y -> y.shovel(s));
        }
        Checks.refusesAndChangesNothing("site 4", Checks.INDEX, Grounds::full, y -> y.shovel(4));
    }

    private static void daysRefused(int t, int snow, int n) {
        Checks.refusesAndChangesNothing("days(" + t + ", " + snow + ", " + n + ")", Checks.ARGUMENT, Grounds::half,
                x -> x.days(t, snow, n));
    }

    private static void daysTemperature() {
        FrostTubes x = Grounds.bare(1);
        x.days(30, 0, 1);
        Checks.is("30", 30, x.siteOf(0, 3));
        x.days(-30, 0, 2);
        Checks.is("-30, on each day", 60, x.siteOf(0, 4));
        for (int t : new int[] {31, -31, FAR[0], FAR[1]}) {
            daysRefused(t, 0, 1);
        }
    }

    private static void daysSnow() {
        FrostTubes x = Grounds.bare(1);
        x.days(0, 0, 60);
        Checks.is("0", 0, x.siteOf(0, 0));
        x.days(0, 30, 3);
        Checks.is("30, on each day", 90, x.siteOf(0, 0));
        for (int snow : new int[] {31, -1, FAR[0], FAR[1]}) {
            daysRefused(0, snow, 1);
        }
    }

    private static void daysNumber() {
        FrostTubes x = Grounds.bare(1);
        x.days(0, 0, 1);
        Checks.is("1", 1, x.about(3));
        x.days(1, 0, 60);
        Checks.is("60", 61, x.about(3));
        Checks.is("60 of warmth", 60, x.siteOf(0, 3));
        for (int n : new int[] {61, 0, -1, FAR[0], FAR[1]}) {
            daysRefused(0, 0, n);
        }
    }

    private static void daysAnswer() {
        Checks.is("without sites", 0, new FrostTubes().days(-30, 0, 60));
        Checks.is("of four sites", 120, Grounds.bare(4).days(-30, 0, 19));
        FrostTubes x = Grounds.bare(4);
        Checks.is("a little frost", 4, x.days(-4, 0, 1));
        Checks.is("no frost any more", 0, x.days(3, 0, 1));
    }

    private static void lastDay() {
        FrostTubes x = Grounds.onDay(9939);
        Checks.is("60 days more", 0, x.days(0, 0, 60));
        Checks.is("9999", 9999, x.about(3));
        Checks.refuses("one day more", Checks.STATE, () -> x.days(0, 0, 1));
        Checks.refuses("60 days more", Checks.STATE, () -> x.days(0, 0, 60));
        FrostTubes y = Grounds.onDay(9940);
        Checks.refuses("60 days to 10000", Checks.STATE, () -> y.days(0, 0, 60));
        Checks.refuses("a bad number of days is told before", Checks.ARGUMENT, () -> y.days(0, 0, 61));
        Checks.refuses("a bad temperature is told before", Checks.ARGUMENT, () -> y.days(31, 0, 60));
        Checks.refuses("bad snow is told before", Checks.ARGUMENT, () -> y.days(0, 31, 60));
        Checks.is("none of them went by", 9940, y.about(3));
        Checks.is("59 days", 0, y.days(0, 0, 59));
        Checks.refusesAndChangesNothing("to 10000", Checks.STATE, () -> Grounds.onDay(9940), z -> z.days(-30, 0, 60));
    }

    private static void sumsAreZero() {
        FrostTubes x = Grounds.bare(4);
        x.days(-9, 0, 1);
        x.winter();
        for (int s = 0; s < 4; s++) {
            Checks.is("site " + s, 0, x.siteOf(s, 4));
            Checks.is("its frost stays", 2, x.siteOf(s, 5));
        }
        x.days(-3, 0, 1);
        x.winter();
        Checks.is("the cold that is stored stays", 3, x.siteOf(0, 2));
    }

    private static void winterAnswer() {
        Checks.is("without sites", 0, new FrostTubes().winter());
        FrostTubes x = Grounds.bare(4);
        Checks.is("without cold", 0, x.winter());
        x.days(0, 1, 1);
        x.shovel(3);
        x.days(-22, 0, 1);
        Checks.is("the last site had most", 22, x.winter());
        Checks.is("none since then", 0, x.winter());
        FrostTubes first = Grounds.bare(2);
        first.days(0, 1, 1);
        first.shovel(0);
        first.days(-22, 0, 1);
        Checks.is("the first site had most", 22, first.winter());
    }

    private static void setRefused(int what, int v) {
        Checks.refusesAndChangesNothing("set(" + what + ", " + v + ")", Checks.ARGUMENT, Grounds::half,
                x -> x.set(what, v));
    }

    private static void setWhat() {
        FrostTubes x = new FrostTubes();
        for (int what = 0; what <= 2; what++) {
            x.set(what, 7);
            Checks.is("setting " + what, 7, x.about(9 + what));
        }
        for (int what : new int[] {-1, 3, FAR[0], FAR[1]}) {
            setRefused(what, 1);
            setRefused(what, 99);
        }
    }

    private static void setValue() {
        int[][] bad = {{0, -1}, {0, 31}, {1, 0}, {1, 10}, {2, -1}, {2, 51}};
        for (int[] s : bad) {
            setRefused(s[0], s[1]);
        }
        for (int what = 0; what <= 2; what++) {
            setRefused(what, FAR[0]);
            setRefused(what, FAR[1]);
        }
    }

    private static void setAnswer() {
        FrostTubes x = new FrostTubes();
        Checks.is("at first 5", 5, x.set(0, 0));
        Checks.is("0", 0, x.set(0, 30));
        Checks.is("30", 30, x.set(0, 30));
        Checks.is("30 again", 30, x.set(0, 1));
        Checks.is("at first 2", 2, x.set(1, 9));
        Checks.is("9", 9, x.set(1, 1));
        Checks.is("at first 10", 10, x.set(2, 50));
        Checks.is("50", 50, x.set(2, 0));
    }

    private static void stillRemembered() {
        FrostTubes x = settings(2);
        Checks.is("one", 1, x.undo());
        Checks.is("none", 0, x.undo());
        x.winter();
        Checks.is("none besides it", 0, x.undo());
        FrostTubes full = settings(40);
        Checks.is("13 of 14", 13, full.undo());
        full.winter();
        Checks.is("13 again", 13, full.undo());
        Checks.is("12", 12, full.undo());
    }

    private static void noneRemembered() {
        FrostTubes x = new FrostTubes();
        Checks.refuses("in a new object", Checks.STATE, () -> x.undo());
        x.append('D');
        x.save(0);
        Checks.refuses("text and slots are not remembered", Checks.STATE, () -> x.undo());
        Checks.refusesAndChangesNothing("all taken back", Checks.STATE, () -> {
            FrostTubes y = Grounds.half();
            y.undo();
            y.undo();
            y.undo();
            return y;
        }, y -> y.undo());
    }
}
