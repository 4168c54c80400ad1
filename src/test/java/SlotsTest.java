/** Promises 30 and 31. */
public final class SlotsTest {
    public static void main(String[] args) {
        saveAndRestore();
        tubesAndPipesComeBack();
        refused();
        Checks.finish("SlotsTest");
    }

    private static void saveAndRestore() {
        FrostTubes x = Looks.threeLayers();
        x.tube(0, 3);
        x.pipe(0, 3);
        String early = Looks.state(x);
        Checks.is("P30: the days", 5, x.save(0));
        Checks.is("P30: save is no action", 8, x.undo());
        x.pipe(0, 3);
        x.site();
        x.days(-30, 2, 7);
        x.winter();
        String late = Looks.state(x);
        Checks.is("P30: the days", 12, x.save(1));
        x.days(30, 0, 9);
        Checks.is("P31: the days then", 5, x.restore(0));
        Checks.same("P31: the state of slot 0", early, Looks.state(x));
        Checks.refuses("P31: nothing is remembered", Checks.STATE, () -> x.undo());
        x.shovel(0);
        Checks.is("P31: one is, later", 0, x.undo());
        x.days(-9, 0, 9);
        Checks.is("P31: the other slot", 12, x.restore(1));
        Checks.same("P31: the state of slot 1", late, Looks.state(x));
        Checks.is("P31: the slot keeps it", 5, x.restore(0));
        Checks.same("P31: the slot keeps it", early, Looks.state(x));
        x.days(0, 0, 3);
        Checks.is("P30: saved over", 8, x.save(0));
        x.days(0, 0, 3);
        Checks.is("P31: the later one", 8, x.restore(0));
        x.append('D');
        x.restore(1);
        Checks.is("P31: the text is kept", 1, x.clearText());
    }

    private static void tubesAndPipesComeBack() {
        FrostTubes x = Looks.threeLayers();
        x.site();
        x.tube(0, 3);
        x.pipe(0, 7);
        String early = Looks.state(x);
        x.save(1);
        x.undo();
        x.undo();
        x.tube(1, 5);
        x.pipe(1, 9);
        x.days(-30, 0, 9);
        x.restore(1);
        Checks.same("P31: its tubes and pipes", early, Looks.state(x));
    }

    private static FrostTubes used() {
        FrostTubes x = Looks.threeLayers();
        x.save(1);
        x.days(-9, 0, 2);
        return x;
    }

    private static void refused() {
        Checks.refusesAndChangesNothing("P30: slot 2", Checks.INDEX, () -> used(), x -> x.save(2));
        Checks.refusesAndChangesNothing("P30: slot -1", Checks.INDEX, () -> used(), x -> x.save(-1));
        Checks.refusesAndChangesNothing("P31: slot 2", Checks.INDEX, () -> used(), x -> x.restore(2));
        Checks.refusesAndChangesNothing("P31: slot -1", Checks.INDEX, () -> used(), x -> x.restore(-1));
        Checks.refusesAndChangesNothing("P31: empty", Checks.STATE, () -> used(), x -> x.restore(0));
        FrostTubes x = used();
        Looks.type(x, "D");
        x.load();
        Checks.refuses("P31: empty since the load", Checks.STATE, () -> x.restore(1));
        Checks.is("P30: day 0", 0, x.save(1));
        Checks.is("P31: day 0", 0, x.restore(1));
    }
}
