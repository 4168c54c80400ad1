import java.util.ArrayList;
import java.util.List;

/** The section EXCEPTIONS: each call that throws, what where several could apply, and that nothing changes. */
public final class ExceptionEdgesTest {
    private static final int[] FAR = {Integer.MIN_VALUE, -1, Integer.MAX_VALUE};

    private static final class Refused {
        final String call;
        final Class<?> due;
        final Checks.Use use;

        Refused(String call, Class<?> due, Checks.Use use) {
            this.call = call;
            this.due = due;
            this.use = use;
        }
    }

    private static final List<Refused> REFUSED = new ArrayList<>();

    public static void main(String[] args) {
        Checks.sentence("EXCEPTIONS", "IndexOutOfBoundsException means that a site, a cell, a layer, a tube, a pipe "
                + "or a rank does not exist, or that a save slot is not 0 or 1.", ExceptionEdgesTest::indexes);
        Checks.sentence("EXCEPTIONS", "IllegalArgumentException means that another argument is out of its range.",
                ExceptionEdgesTest::arguments);
        Checks.sentence("EXCEPTIONS", "IllegalStateException means what the method says.", ExceptionEdgesTest::states);
        Checks.sentence("EXCEPTIONS", "If several exceptions apply to a call, the one that its description names "
                + "first is thrown.", ExceptionEdgesTest::several);
        Checks.sentence("EXCEPTIONS", "A call that throws an exception changes nothing.",
                ExceptionEdgesTest::changesNothing);
        Checks.finish("ExceptionEdgesTest");
    }

    private static void due(String call, Class<?> due, Checks.Use use) {
        REFUSED.add(new Refused(call, due, use));
        Checks.refuses(call + " at a full object", due, () -> use.answer(Grounds.full()));
    }

    private static void indexes() {
        for (int s : new int[] {4, FAR[0], FAR[1], FAR[2]}) {
            due("siteOf of site " + s, Checks.INDEX, x -> x.siteOf(s, 0));
            due("since of site " + s, Checks.INDEX, x -> x.since(s, 0));
            due("layerOf of site " + s, Checks.INDEX, x -> x.layerOf(s, 0, 0));
            due("layers of site " + s, Checks.INDEX, x -> x.layers(s, 0));
            due("tube at site " + s, Checks.INDEX, x -> x.tube(s, 1));
            due("pipe at site " + s, Checks.INDEX, x -> x.pipe(s, 29));
            due("fence of site " + s, Checks.INDEX, x -> x.fence(s, 0));
            due("shovel of site " + s, Checks.INDEX, x -> x.shovel(s));
            due("goneIn of site " + s, Checks.INDEX, x -> x.goneIn(s, 1));
            due("reachedIn of site " + s, Checks.INDEX, x -> x.reachedIn(s, 0, -1));
            due("bestFence of site " + s, Checks.INDEX, x -> x.bestFence(s, 0, 0, 1));
        }
        for (int c : new int[] {30, FAR[0], FAR[1], FAR[2]}) {
            due("since of cell " + c, Checks.INDEX, x -> x.since(0, c));
            due("pipe in cell " + c, Checks.INDEX, x -> x.pipe(0, c));
            due("reachedIn of cell " + c, Checks.INDEX, x -> x.reachedIn(0, c, -1));
        }
        for (int i : new int[] {120, FAR[0], FAR[1], FAR[2]}) {
            due("layer " + i, Checks.INDEX, x -> x.layerOf(0, i, 0));
            due("tube " + i, Checks.INDEX, x -> x.tubeOf(i, 0));
            due("pipe " + i, Checks.INDEX, x -> x.pipeOf(i, 0));
            due("heaveIn of pipe " + i, Checks.INDEX, x -> x.heaveIn(i, 0, 1));
            due("rank " + i, Checks.INDEX, x -> x.oldest(i));
            due("save in slot " + i, Checks.INDEX, x -> x.save(i));
            due("restore of slot " + i, Checks.INDEX, x -> x.restore(i));
        }
    }

    private static void arguments() {
        for (int v : FAR) {
            due("append " + v, Checks.ARGUMENT, x -> x.append(v));
            due("about " + v, Checks.ARGUMENT, x -> x.about(v));
            due("siteOf, what " + v, Checks.ARGUMENT, x -> x.siteOf(0, v));
            due("layerOf, what " + v, Checks.ARGUMENT, x -> x.layerOf(0, 0, v));
            due("tubeOf, what " + v, Checks.ARGUMENT, x -> x.tubeOf(0, v));
            due("pipeOf, what " + v, Checks.ARGUMENT, x -> x.pipeOf(0, v));
            due("layers, way " + v, Checks.ARGUMENT, x -> x.layers(0, v));
            due("tube, length " + v, Checks.ARGUMENT, x -> x.tube(0, v));
            due("fence, height " + v, Checks.ARGUMENT, x -> x.fence(0, v));
            due("days, t beside " + v, Checks.ARGUMENT, x -> x.days(v == -1 ? -31 : v, 0, 1));
            due("days, snow " + v, Checks.ARGUMENT, x -> x.days(0, v, 1));
            due("days, n " + v, Checks.ARGUMENT, x -> x.days(0, 0, v));
            due("set, what " + v, Checks.ARGUMENT, x -> x.set(v, 1));
            due("set, v " + v, Checks.ARGUMENT, x -> x.set(0, v));
            due("goneIn, t " + v, Checks.ARGUMENT, x -> x.goneIn(0, v));
            due("reachedIn, t beside " + v, Checks.ARGUMENT, x -> x.reachedIn(0, 0, v == -1 ? 0 : v));
            due("bestFence, t beside " + v, Checks.ARGUMENT, x -> x.bestFence(0, v == -1 ? 31 : v, 0, 1));
            due("bestFence, snow " + v, Checks.ARGUMENT, x -> x.bestFence(0, 0, v, 1));
            due("bestFence, n " + v, Checks.ARGUMENT, x -> x.bestFence(0, 0, 0, v));
            due("heaveIn, t beside " + v, Checks.ARGUMENT, x -> x.heaveIn(0, v == -1 ? -31 : v, 1));
            due("heaveIn, n " + v, Checks.ARGUMENT, x -> x.heaveIn(0, 0, v));
            due("runScript, n " + v, Checks.ARGUMENT, x -> x.runScript(v, 400000));
            due("simulate, m " + v, Checks.ARGUMENT, x -> x.simulate(1, v));
        }
        due("runScript, -1", Checks.ARGUMENT, x -> x.runScript(1, -1));
        due("runScript, 7 digits", Checks.ARGUMENT, x -> x.runScript(1, 1000000));
    }

    private static void states() {
        due("append to 120 characters", Checks.STATE, x -> x.append('s'));
        due("a fifth site", Checks.STATE, x -> x.site());
        due("a ninth tube", Checks.STATE, x -> x.tube(0, 1));
        due("a ninth pipe", Checks.STATE, x -> x.pipe(0, 29));
        Checks.refuses("a pipe in frost", Checks.STATE, () -> Grounds.half().pipe(0, 0));
        Checks.refuses("days beyond the last one", Checks.STATE, () -> Grounds.onDay(9999).days(0, 0, 1));
        Checks.refuses("nothing to undo", Checks.STATE, () -> new FrostTubes().undo());
        Checks.refuses("not a winter", Checks.STATE, () -> new FrostTubes().load());
        Checks.refuses("an empty slot", Checks.STATE, () -> Grounds.half().restore(0));
    }

    private static void several() {
        due("append: a bad code, and no room", Checks.ARGUMENT, x -> x.append(256));
        due("siteOf: site and what", Checks.INDEX, x -> x.siteOf(4, 9));
        due("layerOf: site, layer and what", Checks.INDEX, x -> x.layerOf(4, 40, 4));
        due("layerOf: layer and what", Checks.INDEX, x -> x.layerOf(0, 40, 4));
        due("tubeOf: tube and what", Checks.INDEX, x -> x.tubeOf(8, 6));
        due("pipeOf: pipe and what", Checks.INDEX, x -> x.pipeOf(8, 5));
        due("layers: site and way", Checks.INDEX, x -> x.layers(4, 2));
        due("tube: site, length and no room", Checks.INDEX, x -> x.tube(4, 31));
        due("tube: site and no room", Checks.INDEX, x -> x.tube(4, 1));
        due("tube: length and no room", Checks.ARGUMENT, x -> x.tube(0, 31));
        due("pipe: site and no room", Checks.INDEX, x -> x.pipe(4, 0));
        due("pipe: cell and no room", Checks.INDEX, x -> x.pipe(0, 30));
        due("fence: site and height", Checks.INDEX, x -> x.fence(4, 21));
        due("goneIn: site and t", Checks.INDEX, x -> x.goneIn(4, 0));
        due("reachedIn: site and t", Checks.INDEX, x -> x.reachedIn(4, 0, 0));
        due("reachedIn: cell and t", Checks.INDEX, x -> x.reachedIn(0, 30, 0));
        due("bestFence: site and t", Checks.INDEX, x -> x.bestFence(4, 31, 0, 1));
        due("bestFence: site and snow", Checks.INDEX, x -> x.bestFence(4, 0, 31, 1));
        due("bestFence: site and n", Checks.INDEX, x -> x.bestFence(4, 0, 0, 61));
        due("heaveIn: pipe and t", Checks.INDEX, x -> x.heaveIn(8, 31, 1));
        due("heaveIn: pipe and n", Checks.INDEX, x -> x.heaveIn(8, 0, 61));
        Checks.refuses("days: t, and beyond the last one", Checks.ARGUMENT,
                () -> Grounds.onDay(9999).days(31, 0, 1));
        Checks.refuses("days: snow, and beyond the last one", Checks.ARGUMENT,
                () -> Grounds.onDay(9999).days(0, 31, 1));
        Checks.refuses("days: n, and beyond the last one", Checks.ARGUMENT, () -> Grounds.onDay(9999).days(0, 0, 61));
        Checks.refuses("restore: no slot, and nothing saved", Checks.INDEX, () -> new FrostTubes().restore(2));
    }

    private static void changesNothing() {
        String full = Looks.everything(Grounds::full, x -> 0);
        for (Refused refused : REFUSED) {
            Checks.same(refused.call, full, Looks.everything(Grounds::full, refused.use));
        }
        Checks.changesNothing("a pipe in frost", Grounds::half, x -> x.pipe(0, 0));
        Checks.changesNothing("days beyond the last one", () -> Grounds.onDay(9950), x -> x.days(-30, 30, 60));
        Checks.changesNothing("nothing to undo", () -> Looks.type(new FrostTubes(), "Ds"), x -> x.undo());
        Checks.changesNothing("not a winter", () -> Looks.type(Grounds.half(), "Dsq"), x -> x.load());
        Checks.changesNothing("an empty slot", Grounds::half, x -> x.restore(0));
    }
}
