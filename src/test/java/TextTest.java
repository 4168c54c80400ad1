/** Promises 2 to 5. */
public final class TextTest {
    public static void main(String[] args) {
        append();
        clearText();
        allowedTexts();
        errors();
        everyTwoDigitNumber();
        load();
        loadForgets();
        loadRefuses();
        Checks.finish("TextTest");
    }

    private static void append() {
        FrostTubes x = new FrostTubes();
        Checks.is("P2: the first", 1, x.append('D'));
        Checks.is("P2: code 0", 2, x.append(0));
        Checks.is("P2: code 255", 3, x.append(255));
        Checks.refuses("P2: -1", Checks.ARGUMENT, () -> x.append(-1));
        Checks.refuses("P2: 256", Checks.ARGUMENT, () -> x.append(256));
        Checks.refuses("P2: 'D' and 256 * 256", Checks.ARGUMENT, () -> x.append('D' + 65536));
        for (int i = 4; i <= 120; i++) {
            Checks.is("P2: length", i, x.append('s'));
        }
        Checks.refuses("P2: full", Checks.STATE, () -> x.append('s'));
        Checks.refuses("P2: full, but the code is told first", Checks.ARGUMENT, () -> x.append(256));
        Checks.is("P2: still 120", 120, x.clearText());
        Checks.refusesAndChangesNothing("P2: full", Checks.STATE, () -> full(), y -> y.append('s'));
        Checks.refusesAndChangesNothing("P2: 256", Checks.ARGUMENT, () -> Looks.type(new FrostTubes(), "Ds"),
                y -> y.append(256));
    }

    private static FrostTubes full() {
        return Looks.type(new FrostTubes(), "D" + "s".repeat(119));
    }

    private static void clearText() {
        FrostTubes x = Looks.type(new FrostTubes(), "Dsw");
        Checks.is("P3: previous length", 3, x.clearText());
        Checks.is("P3: empty now", 0, x.clearText());
        Checks.is("P3: begins anew", 1, x.append('s'));
        Checks.is("P3: the old text is gone", 0, x.errorPosition());
    }

    private static void allowedTexts() {
        String[] allowed = {"D", "Ds", "Dw", "Dx0", "Dx3", "Dt001", "Dt330", "Dt209", "Dp000", "Dp329", "Df000",
            "Df320", "Dd-300060", "Dd+000001", "Dd-000001", "Dd+303001", "De000", "De250", "De150", "De049",
            "Dssssssw", "Dst015p003f010x0d-120310e105w"};
        for (String text : allowed) {
            Checks.is("P4: " + text, FrostTubes.NONE, Looks.type(new FrostTubes(), text).errorPosition());
        }
        Checks.is("P4: 120 characters", FrostTubes.NONE, full().errorPosition());
    }

    private static void errors() {
        errorAt("", 0);
        errorAt("d", 0);
        errorAt(" D", 0);
        errorAt("DD", 1);
        errorAt("Ds ", 2);
        errorAt("Dq", 1);
        errorAt("Dsu", 2);
        errorAt("D0", 1);
        errorAt("Dx", 2);
        errorAt("Dx4", 2);
        errorAt("Dx/", 2);
        errorAt("Dx0x", 4);
        errorAt("Dt", 2);
        errorAt("Dt0", 3);
        errorAt("Dt00", 4);
        errorAt("Dt000", 4);
        errorAt("Dt04", 3);
        errorAt("Dt031", 4);
        errorAt("Dt040", 3);
        errorAt("Dp4", 2);
        errorAt("Df4", 2);
        errorAt("Dp9", 2);
        errorAt("Dx9", 2);
        errorAt("Dt4", 2);
        errorAt("Dp030", 3);
        errorAt("Dp02", 4);
        errorAt("Dp02:", 4);
        errorAt("Df021", 4);
        errorAt("Df03", 3);
        errorAt("Dd", 2);
        errorAt("Dd0", 2);
        errorAt("Dd+", 3);
        errorAt("Dd+4", 3);
        errorAt("Dd-31", 4);
        errorAt("Dd-30", 5);
        errorAt("Dd-304", 5);
        errorAt("Dd-3031", 6);
        errorAt("Dd-30300", 8);
        errorAt("Dd-303000", 8);
        errorAt("Dd-303061", 8);
        errorAt("Dd-30307", 7);
        errorAt("De", 2);
        errorAt("De3", 2);
        errorAt("De06", 3);
        errorAt("De051", 4);
        errorAt("De0505", 5);
        errorAt("D" + (char) 255, 1);
        errorAt("D" + (char) 0, 1);
        errorAt("Ds" + "s".repeat(117) + "t", 120);
        errorAt("D" + "s".repeat(118) + "+", 119);
    }

    private static void errorAt(String text, int due) {
        FrostTubes x = Looks.type(new FrostTubes(), text);
        Checks.is("P4: " + text, due, x.errorPosition());
        Checks.is("P4: asked again: " + text, due, x.errorPosition());
    }

    /** Each number of two digits, at each place where one stands. */
    private static void everyTwoDigitNumber() {
        everyNumber("Dt0", 1, 30, "");
        everyNumber("Dp0", 0, 29, "");
        everyNumber("Df0", 0, 20, "");
        everyNumber("Dd+", 0, 30, "0001");
        everyNumber("Dd-", 0, 30, "0001");
        everyNumber("Dd+00", 0, 30, "01");
        everyNumber("Dd+0000", 1, 60, "");
        everyNumber("De0", 0, 50, "");
    }

    private static void everyNumber(String before, int least, int most, String behind) {
        for (int v = 0; v < 100; v++) {
            int due = FrostTubes.NONE;
            if (v < least || v > most) {
                boolean begins = v / 10 >= least / 10 && v / 10 <= most / 10;
                due = before.length() + (begins ? 1 : 0);
            }
            String text = before + v / 10 + v % 10 + behind;
            Checks.is("P4: " + text, due, Looks.type(new FrostTubes(), text).errorPosition());
        }
    }

    private static void load() {
        Checks.is("P5: D", 0, Looks.type(new FrostTubes(), "D").load());
        FrostTubes x = Looks.type(new FrostTubes(), "Dse000e220t015t130p002d-300001f020wx0d-000502");
        Checks.is("P5: left out: a tube at no site", 1, x.load());
        Checks.is("P5: sites", 1, x.about(0));
        Checks.is("P5: tubes", 1, x.about(1));
        Checks.is("P5: length", 15, x.tubeOf(0, 1));
        Checks.is("P5: pipes", 1, x.about(2));
        Checks.is("P5: its cell", 2, x.pipeOf(0, 1));
        Checks.is("P5: its heave", 20, x.pipeOf(0, 2));
        Checks.is("P5: days", 3, x.about(3));
        Checks.is("P5: frozen", 5, x.about(4));
        Checks.is("P5: winters", 1, x.about(6));
        Checks.is("P5: greatest sum", 30, x.about(7));
        Checks.is("P5: the fence catches 5 and 5", 20, x.siteOf(0, 0));
        Checks.is("P5: fence", 20, x.siteOf(0, 1));
        Checks.is("P5: setting 0", 0, x.about(9));
        Checks.is("P5: setting 2", 20, x.about(11));
        FrostTubes warm = Looks.loaded("Dsd+000501d+010001x0d+070001");
        Checks.is("P5: a + is warm, x takes the snow", 7, warm.siteOf(0, 3));
        everythingLeftOut();
    }

    private static void everythingLeftOut() {
        Checks.is("P5: no sites", 5, Looks.type(new FrostTubes(), "Dt001p000f000x0x3d+000001").load());
        Checks.is("P5: settings out of their ranges", 4, Looks.type(new FrostTubes(), "De031e100e110e150").load());
        Checks.is("P5: the fifth site on", 115, Looks.type(new FrostTubes(), "D" + "s".repeat(119)).load());
        Checks.is("P5: the ninth tube", 1, Looks.type(new FrostTubes(), "Ds" + "t005".repeat(9)).load());
        Checks.is("P5: the ninth pipe", 1, Looks.type(new FrostTubes(), "Ds" + "p005".repeat(9)).load());
        Checks.is("P5: a pipe in frost", 1, Looks.type(new FrostTubes(), "Dsd-300001p000p009").load());
    }

    private static void loadForgets() {
        Checks.Recipe used = () -> {
            FrostTubes x = Looks.threeLayers();
            x.save(0);
            x.save(1);
            x.tube(0, 3);
            x.winter();
            return Looks.type(x, "Dsd-300001");
        };
        Checks.is("P5: nothing left out", 0, used.make().load());
        Checks.same("P5: as in a new object", Looks.everything(() -> Looks.loaded("Dsd-300001"), x -> 0),
                Looks.everything(used, x -> x.load()));
        FrostTubes y = Looks.loaded("Dsd-300001");
        Checks.refuses("P5: no action is remembered", Checks.STATE, () -> y.undo());
        Checks.refuses("P5: slot 0 is empty", Checks.STATE, () -> y.restore(0));
        Checks.refuses("P5: slot 1 is empty", Checks.STATE, () -> y.restore(1));
        Checks.is("P5: keeps the text", 10, y.clearText());
        FrostTubes twice = Looks.loaded("Dsd-300001");
        twice.load();
        Checks.is("P5: loaded twice", 1, twice.about(3));
    }

    private static void loadRefuses() {
        Checks.refuses("P5: no text", Checks.STATE, () -> new FrostTubes().load());
        Checks.refusesAndChangesNothing("P5: too short", Checks.STATE, () -> usedWith("Dsx"), x -> x.load());
        Checks.refusesAndChangesNothing("P5: error at the end", Checks.STATE, () -> usedWith("Dswq"), x -> x.load());
        Checks.refusesAndChangesNothing("P5: no D", Checks.STATE, () -> usedWith("sw"), x -> x.load());
    }

    private static FrostTubes usedWith(String text) {
        FrostTubes x = Looks.threeLayers();
        x.save(1);
        x.pipe(0, 9);
        return Looks.type(x, text);
    }
}
