/** The boundary cases of the promises 30 and 31, sentence by sentence. */
public final class SlotEdgesTest {
    private static final int[] NO_SLOTS = {2, -1, Integer.MIN_VALUE, Integer.MAX_VALUE};

    public static void main(String[] args) {
        Checks.sentence("P30", "Stores the present state in a save slot.", SlotEdgesTest::storesPresentState);
        Checks.sentence("P30", "slot: 0 or 1", SlotEdgesTest::twoSlots);
        Checks.sentence("P30", "Returns the days.", SlotEdgesTest::daysOfSave);
        Checks.sentence("P30", "if there is no such save slot", SlotEdgesTest::noSlotToSave);
        Checks.sentence("P31", "Replaces the state by the one in a save slot", SlotEdgesTest::replaces);
        Checks.sentence("P31", "and forgets all remembered states", SlotEdgesTest::forgets);
        Checks.sentence("P31", "The save slot keeps it.", SlotEdgesTest::keeps);
        Checks.sentence("P31", "Returns the days then.", SlotEdgesTest::daysOfRestore);
        Checks.sentence("P31", "if there is no such save slot", SlotEdgesTest::noSlotToRestore);
        Checks.sentence("P31", "if nothing has been saved in it since the last load", SlotEdgesTest::nothingSaved);
        Checks.finish("SlotEdgesTest");
    }

    private static void storesPresentState() {
        FrostTubes x = Grounds.half();
        x.save(0);
        x.fence(0, 9);
        x.restore(0);
        Checks.is("not what became of it", 0, x.siteOf(0, 1));
        x.fence(0, 9);
        x.save(0);
        x.fence(0, 3);
        x.restore(0);
        Checks.is("the later one instead of the earlier one", 9, x.siteOf(0, 1));
        Checks.same("all but the slot is as it was", Looks.state(Grounds.half()), savedAndLooked());
        FrostTubes kept = Grounds.half();
        kept.save(0);
        Checks.is("save remembers nothing and forgets nothing", 2, kept.undo());
        FrostTubes none = new FrostTubes();
        none.save(1);
        none.site();
        none.restore(1);
        Checks.is("ground without sites", 0, none.about(0));
    }

    private static String savedAndLooked() {
        FrostTubes x = Grounds.half();
        x.save(0);
        return Looks.state(x);
    }

    private static void twoSlots() {
        FrostTubes x = new FrostTubes();
        x.save(0);
        Checks.refuses("slot 1 is still empty", Checks.STATE, () -> x.restore(1));
        FrostTubes y = new FrostTubes();
        y.save(1);
        Checks.refuses("slot 0 is still empty", Checks.STATE, () -> y.restore(0));
        y.days(0, 0, 3);
        y.save(0);
        Checks.is("each has its own", 0, y.restore(1));
        Checks.is("each has its own", 3, y.restore(0));
    }

    private static void daysOfSave() {
        FrostTubes x = new FrostTubes();
        Checks.is("none", 0, x.save(0));
        x.days(0, 0, 60);
        Checks.is("60", 60, x.save(0));
        Checks.is("all", 9999, Grounds.onDay(9999).save(1));
    }

    private static void noSlotToSave() {
        for (int slot : NO_SLOTS) {
            Checks.refusesAndChangesNothing("slot " + slot, Checks.INDEX, Grounds::half, x -> x.save(slot));
            Checks.refuses("slot " + slot, Checks.INDEX, () -> Grounds.full().save(slot));
        }
    }

    private static void replaces() {
        FrostTubes x = Grounds.full();
        x.save(0);
        x.days(30, 0, 9);
        x.winter();
        x.set(0, 1);
        x.fence(3, 3);
        x.restore(0);
        Checks.same("all of the state", Looks.state(Grounds.full()), Looks.state(x));
        FrostTubes y = Grounds.half();
        y.append('w');
        y.restore(1);
        Checks.is("not the text", 19, y.clearText());
        FrostTubes z = Grounds.bare(2);
        z.tube(0, 3);
        z.pipe(0, 7);
        String before = Looks.state(z);
        z.save(0);
        z.undo();
        z.undo();
        z.tube(1, 5);
        z.pipe(1, 9);
        z.restore(0);
        Checks.same("its tubes and pipes instead of others", before, Looks.state(z));
    }

    private static void forgets() {
        FrostTubes x = Grounds.full();
        x.restore(0);
        Checks.refuses("all 14", Checks.STATE, () -> x.undo());
        x.winter();
        Checks.is("the next one is remembered", 0, x.undo());
        FrostTubes y = new FrostTubes();
        y.save(0);
        y.restore(0);
        Checks.refuses("none of none", Checks.STATE, () -> y.undo());
    }

    private static void keeps() {
        FrostTubes x = Grounds.half();
        x.restore(1);
        String saved = Looks.state(x);
        for (int i = 0; i < 3; i++) {
            x.days(-30, 3, 5);
            x.pipe(1, 29);
            x.undo();
            x.winter();
            Checks.is("again", 5, x.restore(1));
        }
        Checks.same("as it was saved", saved, Looks.state(x));
    }

    private static void daysOfRestore() {
        FrostTubes x = new FrostTubes();
        x.save(0);
        x.days(0, 0, 60);
        x.save(1);
        Checks.is("0", 0, x.restore(0));
        Checks.is("60", 60, x.restore(1));
        FrostTubes late = Grounds.onDay(9999);
        late.save(0);
        Checks.is("9999", 9999, late.restore(0));
    }

    private static void noSlotToRestore() {
        for (int slot : NO_SLOTS) {
            Checks.refusesAndChangesNothing("slot " + slot, Checks.INDEX, Grounds::half, x -> x.restore(slot));
            Checks.refuses("slot " + slot + " of full ones", Checks.INDEX, () -> Grounds.full().restore(slot));
            Checks.refuses("slot " + slot + " of empty ones", Checks.INDEX, () -> new FrostTubes().restore(slot));
        }
    }

    private static void nothingSaved() {
        FrostTubes x = new FrostTubes();
        Checks.refuses("never: slot 0", Checks.STATE, () -> x.restore(0));
        Checks.refuses("never: slot 1", Checks.STATE, () -> x.restore(1));
        Checks.refusesAndChangesNothing("slot 0", Checks.STATE, Grounds::half, y -> y.restore(0));
        FrostTubes loaded = Grounds.full();
        loaded.load();
        Checks.refuses("not since the load: slot 0", Checks.STATE, () -> loaded.restore(0));
        Checks.refuses("not since the load: slot 1", Checks.STATE, () -> loaded.restore(1));
        loaded.save(1);
        Checks.is("since the load", 0, loaded.restore(1));
        Checks.refuses("slot 0 is still empty", Checks.STATE, () -> loaded.restore(0));
        FrostTubes notLoaded = Grounds.half();
        notLoaded.append('q');
        Checks.refuses("no load", Checks.STATE, () -> notLoaded.load());
        Checks.is("a load that throws is none", 5, notLoaded.restore(1));
    }
}
