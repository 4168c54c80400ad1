/** Tells an object's state as a text, so that two objects can be compared. */
final class Looks {
    private Looks() {
    }

    /** All that the reading calls tell. */
    static String state(FrostTubes x) {
        StringBuilder told = new StringBuilder("about");
        for (int what = 0; what < 12; what++) {
            told.append(' ').append(x.about(what));
        }
        for (int s = 0; s < x.about(0); s++) {
            told.append(" | site");
            for (int what = 0; what < 9; what++) {
                told.append(' ').append(x.siteOf(s, what));
            }
            told.append(" since");
            for (int c = 0; c < 30; c++) {
                told.append(' ').append(x.since(s, c));
            }
        }
        for (int t = 0; t < x.about(1); t++) {
            told.append(" | tube");
            for (int what = 0; what < 6; what++) {
                told.append(' ').append(x.tubeOf(t, what));
            }
        }
        for (int p = 0; p < x.about(2); p++) {
            told.append(" | pipe");
            for (int what = 0; what < 5; what++) {
                told.append(' ').append(x.pipeOf(p, what));
            }
        }
        return told.toString();
    }

    /** Uses the object up: its state, what undo brings back, its save slots and its text. */
    static String everything(FrostTubes x) {
        StringBuilder told = new StringBuilder(state(x));
        told.append("\n  error ").append(x.errorPosition());
        boolean more = true;
        for (int i = 0; i < 20 && more; i++) {
            try {
                told.append("\n  undo ").append(x.undo()).append(": ").append(state(x));
            } catch (IllegalStateException e) {
                more = false;
            }
        }
        for (int slot = 0; slot < 2; slot++) {
            try {
                told.append("\n  slot ").append(x.restore(slot)).append(": ").append(state(x));
            } catch (IllegalStateException e) {
                told.append("\n  slot empty");
            }
        }
        return told.append("\n  text ").append(x.clearText()).toString();
    }

    static FrostTubes type(FrostTubes x, String text) {
        x.clearText();
        for (int i = 0; i < text.length(); i++) {
            x.append(text.charAt(i));
        }
        return x;
    }

    static FrostTubes loaded(String text) {
        FrostTubes x = type(new FrostTubes(), text);
        x.load();
        return x;
    }

    /** Behind five days site 0 has the frozen cells 0 (since day 5), 2 (since 3) and 4 (since 1). */
    static FrostTubes threeLayers() {
        FrostTubes x = new FrostTubes();
        x.set(0, 0);
        x.site();
        x.days(-30, 0, 1);
        x.days(18, 0, 1);
        x.days(-15, 0, 1);
        x.days(7, 0, 1);
        x.days(-4, 0, 1);
        return x;
    }
}
