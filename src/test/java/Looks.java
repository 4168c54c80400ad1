/** Tells an object's state as a text, so that two objects can be compared. */
final class Looks {
    private static final int REMEMBERED = 14;
    private static final int SLOTS = 2;

    private Looks() {
    }

    /** All that the reading calls tell; of a full object it takes 256 of the 512 calls for which one is made. */
    static String state(FrostTubes x) {
        StringBuilder told = new StringBuilder("about");
        for (int what = 0; what < 12; what++) {
            told.append(' ').append(x.about(what));
        }
        for (int s = 0; s < x.about(0); s++) {
            told.append(" | site");
            for (int what = 0; what < 9; what++) {
                told.append(' ').append(x.siteOf(s, what));
            }
            told.append(" since");
            for (int c = 0; c < 30; c++) {
                told.append(' ').append(x.since(s, c));
            }
        }
        for (int t = 0; t < x.about(1); t++) {
            told.append(" | tube");
            for (int what = 0; what < 6; what++) {
                told.append(' ').append(x.tubeOf(t, what));
            }
        }
        for (int p = 0; p < x.about(2); p++) {
            told.append(" | pipe");
            for (int what = 0; what < 5; what++) {
                told.append(' ').append(x.pipeOf(p, what));
            }
        }
        return told.toString();
    }

    /**
     * What an object is behind a call: its state, each state that undo brings back, its save slots and its text.
     * Each look takes an object of its own, so that none is used for more than 512 calls.
     */
    static String everything(Checks.Recipe recipe, Checks.Use use) {
        StringBuilder told = new StringBuilder(state(behind(recipe, use)));
        for (int times = 1; times <= REMEMBERED + 1; times++) {
            told.append("\n  ").append(behindUndo(behind(recipe, use), times));
        }
        for (int slot = 0; slot < SLOTS; slot++) {
            told.append("\n  slot ").append(behindRestore(behind(recipe, use), slot));
        }
        told.append("\n  error position ").append(behind(recipe, use).errorPosition());
        told.append("\n  text ").append(behindLoad(behind(recipe, use)));
        return told.append("\n  length ").append(behind(recipe, use).clearText()).toString();
    }

    private static FrostTubes behind(Checks.Recipe recipe, Checks.Use use) {
        FrostTubes x = recipe.make();
        try {
            use.answer(x);
        } catch (RuntimeException e) {
            return x;
        }
        return x;
    }

    private static String behindUndo(FrostTubes x, int times) {
        int left = 0;
        try {
            for (int i = 0; i < times; i++) {
                left = x.undo();
            }
        } catch (IllegalStateException e) {
            return "no more undo";
        }
        return "undo " + left + ": " + state(x);
    }

    private static String behindRestore(FrostTubes x, int slot) {
        try {
            return x.restore(slot) + ": " + state(x);
        } catch (IllegalStateException e) {
            return "empty";
        }
    }

    private static String behindLoad(FrostTubes x) {
        try {
            return x.load() + ": " + state(x);
        } catch (IllegalStateException e) {
            return "not a winter";
        }
    }

    static FrostTubes type(FrostTubes x, String text) {
        x.clearText();
        for (int i = 0; i < text.length(); i++) {
            x.append(text.charAt(i));
        }
        return x;
    }

    static FrostTubes loaded(String text) {
        FrostTubes x = type(new FrostTubes(), text);
        x.load();
        return x;
    }

    /** Behind five days site 0 has the frozen cells 0 (since day 5), 2 (since 3) and 4 (since 1). */
    static FrostTubes threeLayers() {
        FrostTubes x = new FrostTubes();
        x.set(0, 0);
        x.site();
        x.days(-30, 0, 1);
        x.days(18, 0, 1);
        x.days(-15, 0, 1);
        x.days(7, 0, 1);
        x.days(-4, 0, 1);
        return x;
    }
}
