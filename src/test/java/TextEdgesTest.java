/** The boundary cases of the section TEXT and of the promises 2 to 5, sentence by sentence. */
public final class TextEdgesTest {
    /** One of each command, as short as it is allowed. */
    private static final String[] COMMANDS = {"s", "t001", "p000", "f000", "x0", "d+000001", "d-300060", "e000", "w"};

    public static void main(String[] args) {
        Checks.sentence("TEXT", "The object has a text buffer of at most 120 characters.", TextEdgesTest::room);
        Checks.sentence("TEXT", "A winter as a text is the letter D", TextEdgesTest::letterD);
        Checks.sentence("TEXT", "and then any number of commands", TextEdgesTest::anyNumber);
        Checks.sentence("TEXT", "a site is a digit (0 to 3)", TextEdgesTest::siteDigits);
        Checks.sentence("TEXT", "t, a site, and two digits for a length (01 to 30): tube()",
                () -> twoDigits("Dst0", 1, 30, "", (x, v) -> Checks.is("length", v, x.tubeOf(0, 1))));
        Checks.sentence("TEXT", "p, a site, and two digits for a cell (00 to 29): pipe()",
                () -> twoDigits("Dsp0", 0, 29, "", (x, v) -> Checks.is("cell", v, x.pipeOf(0, 1))));
        Checks.sentence("TEXT", "f, a site, and two digits for a height (00 to 20): fence()",
                () -> twoDigits("Dsf0", 0, 20, "", (x, v) -> Checks.is("height", v, x.siteOf(0, 1))));
        Checks.sentence("TEXT", "x and a site: shovel()", TextEdgesTest::shovel);
        Checks.sentence("TEXT", "d, + or -", TextEdgesTest::signs);
        Checks.sentence("TEXT", "two digits for a temperature (00 to 30", TextEdgesTest::temperatures);
        Checks.sentence("TEXT", "-00 is 0)", TextEdgesTest::zeroDegrees);
        Checks.sentence("TEXT", "two for snow (00 to 30)",
                () -> twoDigits("Dsd+00", 0, 30, "01", (x, v) -> Checks.is("snow", v, x.siteOf(0, 0))));
        Checks.sentence("TEXT", "and two for a number of days (01 to 60): days()",
                () -> twoDigits("Dd+0000", 1, 60, "", (x, v) -> Checks.is("days", v, x.about(3))));
        Checks.sentence("TEXT", "e, a digit (0 to 2)", TextEdgesTest::settingDigits);
        Checks.sentence("TEXT", "and two digits (00 to 50): set()", TextEdgesTest::settings);
        Checks.sentence("TEXT", "Commands that would throw an exception are left out.", TextEdgesTest::leftOut);
        Checks.sentence("TEXT", "There are no blanks.", TextEdgesTest::blanks);
        Checks.sentence("TEXT", "The text is read from left to right.", TextEdgesTest::leftToRight);
        Checks.sentence("TEXT", "The error position is the index of the first character that these rules do not "
                + "allow at its place", TextEdgesTest::firstError);
        Checks.sentence("TEXT", "a digit is not allowed if no number that is allowed begins with it and those "
                + "before it", TextEdgesTest::digits);
        Checks.sentence("TEXT", "if the text ends too soon, it is the length of the text", TextEdgesTest::endsTooSoon);
        Checks.sentence("P2", "character code, 0 to 255", TextEdgesTest::codes);
        Checks.sentence("P2", "Returns the new length of the text.", TextEdgesTest::lengths);
        Checks.sentence("P2", "if the text already has 120 characters", TextEdgesTest::full);
        Checks.sentence("P3", "Returns the previous length of the text.", TextEdgesTest::cleared);
        Checks.sentence("P4", "Returns the error position of the text; NONE if it is a winter.",
                TextEdgesTest::winters);
        Checks.sentence("P5", "Makes everything as in a new object, and then does the commands of the text.",
                TextEdgesTest::asNew);
        Checks.sentence("P5", "Behind it no state is remembered, and both save slots are empty.",
                TextEdgesTest::nothingRemembered);
        Checks.sentence("P5", "Keeps the text, also if it throws the exception.", TextEdgesTest::keepsText);
        Checks.sentence("P5", "Returns the number of commands that are left out.", TextEdgesTest::countsLeftOut);
        Checks.sentence("P5", "if the text is not a winter", TextEdgesTest::notAWinter);
        Checks.finish("TextEdgesTest");
    }

    private interface Shown {
        void is(FrostTubes x, int v);
    }

    private static void errorAt(int due, String text) {
        Checks.is("error position of " + text, due, Looks.type(new FrostTubes(), text).errorPosition());
    }

    private static void allowed(String text) {
        errorAt(FrostTubes.NONE, text);
    }

    /** Each number of two digits from 00 to 99 at one place: those that are allowed are loaded, too. */
    private static void twoDigits(String before, int least, int most, String behind, Shown shown) {
        for (int v = 0; v < 100; v++) {
            String text = before + v / 10 + v % 10 + behind;
            if (v >= least && v <= most) {
                allowed(text);
                shown.is(Looks.loaded(text), v);
            } else {
                errorAt(before.length() + (v / 10 > most / 10 ? 0 : 1), text);
            }
        }
        for (char sign : new char[] {'/', ':', ' ', '+', '-', 's', 0, 255}) {
            errorAt(before.length(), before + sign + "1" + behind);
            errorAt(before.length() + 1, before + "1" + sign + behind);
        }
    }

    private static void room() {
        FrostTubes x = Looks.type(new FrostTubes(), "D" + "w".repeat(118));
        Checks.is("119", FrostTubes.NONE, x.errorPosition());
        Checks.is("the 120th has room", 120, x.append('w'));
        Checks.refuses("the next one has none", Checks.STATE, () -> x.append('w'));
        allowed("D" + "w".repeat(119));
        Checks.is("all of them are read", 0, x.load());
        Checks.is("119 winters", 119, x.about(6));
    }

    private static void letterD() {
        allowed("D");
        errorAt(0, "");
        for (char sign : new char[] {'d', 'C', 'E', 's', 'w', ' ', '0', 0, 255}) {
            errorAt(0, sign + "");
            errorAt(0, sign + "D");
        }
        errorAt(1, "DD");
    }

    private static void anyNumber() {
        Checks.is("no command", 0, Looks.type(new FrostTubes(), "D").load());
        for (String command : COMMANDS) {
            allowed("D" + command);
            allowed("D" + command + command);
            for (String next : COMMANDS) {
                allowed("D" + command + next);
            }
        }
        Checks.is("as many as have room", 119, Looks.loaded("D" + "w".repeat(119)).about(6));
    }

    private static void siteDigits() {
        String[][] around = {{"t", "01"}, {"p", "00"}, {"f", "00"}, {"x", ""}};
        for (String[] command : around) {
            for (char sign = 0; sign < 256; sign++) {
                boolean digit = sign >= '0' && sign <= '3';
                errorAt(digit ? FrostTubes.NONE : 2, "D" + command[0] + sign + command[1]);
            }
        }
        FrostTubes x = Looks.loaded("Dsssst001t330p001p302f011f320");
        Checks.is("tube at site 0", 0, x.tubeOf(0, 0));
        Checks.is("tube at site 3", 3, x.tubeOf(1, 0));
        Checks.is("pipe at site 0", 0, x.pipeOf(0, 0));
        Checks.is("pipe at site 3", 3, x.pipeOf(1, 0));
        Checks.is("fence of site 0", 11, x.siteOf(0, 1));
        Checks.is("fence of site 3", 20, x.siteOf(3, 1));
    }

    private static void shovel() {
        FrostTubes x = Looks.loaded("Dssssd+000901x0x3");
        int[] due = {0, 9, 9, 0};
        for (int s = 0; s < 4; s++) {
            Checks.is("snow of site " + s, due[s], x.siteOf(s, 0));
        }
        errorAt(3, "Dx00");
    }

    private static void signs() {
        for (char sign = 0; sign < 256; sign++) {
            boolean fine = sign == '+' || sign == '-';
            errorAt(fine ? FrostTubes.NONE : 2, "Dd" + sign + "000001");
        }
    }

    private static void temperatures() {
        twoDigits("Dsd+", 0, 30, "0001", (x, v) -> Checks.is("warmth", v, x.siteOf(0, 3)));
        twoDigits("Dsd-", 0, 30, "0001", (x, v) -> Checks.is("cold", v, x.siteOf(0, 4)));
    }

    private static void zeroDegrees() {
        Checks.is("-00 keeps the warmth", 2, Looks.loaded("Dsd+020001d-000001").siteOf(0, 3));
        Checks.is("-00 keeps the cold", 3, Looks.loaded("Dsd-030001d-000001").siteOf(0, 2));
        Checks.is("+00 keeps the warmth", 2, Looks.loaded("Dsd+020001d+000001").siteOf(0, 3));
        Checks.is("+00 keeps the cold", 3, Looks.loaded("Dsd-030001d+000001").siteOf(0, 2));
    }

    private static void settingDigits() {
        for (char sign = 0; sign < 256; sign++) {
            boolean digit = sign >= '0' && sign <= '2';
            errorAt(digit ? FrostTubes.NONE : 2, "De" + sign + "05");
        }
        FrostTubes x = Looks.loaded("De007e108e209");
        Checks.is("setting 0", 7, x.about(9));
        Checks.is("setting 1", 8, x.about(10));
        Checks.is("setting 2", 9, x.about(11));
    }

    private static void settings() {
        twoDigits("De0", 0, 50, "", (x, v) -> Checks.is("setting 0", v <= 30 ? v : 5, x.about(9)));
        twoDigits("De1", 0, 50, "", (x, v) -> Checks.is("setting 1", v >= 1 && v <= 9 ? v : 2, x.about(10)));
        twoDigits("De2", 0, 50, "", (x, v) -> Checks.is("setting 2", v, x.about(11)));
    }

    private static void leavesOut(int due, String text) {
        Checks.is("left out of " + text, due, Looks.type(new FrostTubes(), text).load());
    }

    private static void leftOut() {
        leavesOut(0, "Dssss");
        leavesOut(1, "Dsssss");
        leavesOut(1, "Dt001");
        leavesOut(1, "Dsssx3");
        leavesOut(0, "Dssssx3");
        leavesOut(0, "Ds" + "t001".repeat(8));
        leavesOut(1, "Ds" + "t001".repeat(9));
        leavesOut(1, "Dsp129");
        leavesOut(0, "Ds" + "p029".repeat(8));
        leavesOut(1, "Ds" + "p029".repeat(9));
        leavesOut(0, "Dsd-030001p000");
        leavesOut(1, "Dsd-040001p000");
        leavesOut(1, "Dsf120");
        leavesOut(0, "De030");
        leavesOut(1, "De031");
        leavesOut(1, "De100");
        leavesOut(0, "De101");
        leavesOut(0, "De109");
        leavesOut(1, "De110");
        leavesOut(0, "De250");
        leavesOut(0, "Dw");
        leavesOut(0, "Dd-303060");
        FrostTubes x = Looks.loaded("Dt001st002");
        Checks.is("those behind it are done", 1, x.about(1));
        Checks.is("the second tube is the one", 2, x.tubeOf(0, 1));
    }

    private static void blanks() {
        errorAt(0, " D");
        errorAt(1, "D ");
        errorAt(1, "D s");
        errorAt(2, "Ds ");
        for (String command : COMMANDS) {
            for (int i = 0; i <= command.length(); i++) {
                errorAt(1 + i, "D" + command.substring(0, i) + " " + command.substring(i));
            }
        }
    }

    private static void leftToRight() {
        FrostTubes x = Looks.loaded("Dsf005f017e203e204");
        Checks.is("the later fence", 17, x.siteOf(0, 1));
        Checks.is("the later setting", 4, x.about(11));
        Checks.is("a site behind its tube is too late", 1, Looks.type(new FrostTubes(), "Dt001s").load());
    }

    private static void firstError() {
        errorAt(1, "Dqq");
        errorAt(2, "Dsqs ");
        errorAt(4, "Dx1sqd");
        errorAt(3, "Dx1 x9");
        errorAt(0, "qD");
        errorAt(119, "D" + "s".repeat(118) + "q");
        for (char sign = 0; sign < 256; sign++) {
            boolean whole = sign == 's' || sign == 'w';
            boolean begun = "tpfxde".indexOf(sign) >= 0;
            errorAt(whole ? FrostTubes.NONE : begun ? 2 : 1, "D" + sign);
        }
    }

    private static void digits() {
        errorAt(3, "Dt0400");
        errorAt(4, "Dt0000");
        errorAt(4, "Dt0311");
        errorAt(3, "Dp0300");
        errorAt(3, "Df0300");
        errorAt(4, "Df0210");
        errorAt(3, "Dd+400001");
        errorAt(4, "Dd-310001");
        errorAt(5, "Dd+004001");
        errorAt(6, "Dd+003101");
        errorAt(8, "Dd+000000");
        errorAt(7, "Dd+000070");
        errorAt(8, "Dd+000061");
        errorAt(3, "De060");
        errorAt(4, "De051");
        allowed("De150");
    }

    private static void endsTooSoon() {
        errorAt(0, "");
        for (String command : COMMANDS) {
            for (int i = 1; i < command.length(); i++) {
                String text = "Dw" + command.substring(0, i);
                errorAt(text.length(), text);
            }
        }
        errorAt(120, "D" + "w".repeat(118) + "x");
        errorAt(120, "D" + "w".repeat(116) + "t03");
    }

    private static void codes() {
        FrostTubes x = new FrostTubes();
        for (int c = 0; c < 120; c++) {
            Checks.is("code " + c, c + 1, x.append(c));
        }
        FrostTubes y = new FrostTubes();
        for (int c = 120; c < 240; c++) {
            Checks.is("code " + c, c - 119, y.append(c));
        }
        FrostTubes z = new FrostTubes();
        for (int c = 240; c <= 255; c++) {
            Checks.is("code " + c, c - 239, z.append(c));
        }
        for (int c : new int[] {-1, 256, 'D' + 256, 'D' - 256, Integer.MIN_VALUE, Integer.MAX_VALUE}) {
            Checks.refuses("code " + c, Checks.ARGUMENT, () -> z.append(c));
        }
        Checks.is("those are not in it", 16, z.clearText());
    }

    private static void lengths() {
        FrostTubes x = new FrostTubes();
        Checks.is("the first", 1, x.append('D'));
        Checks.is("the second", 2, x.append('s'));
        x.load();
        Checks.is("behind a load", 3, x.append('w'));
        x.clearText();
        Checks.is("the first again", 1, x.append('D'));
    }

    private static void full() {
        FrostTubes x = Grounds.full();
        Checks.refuses("a character more", Checks.STATE, () -> x.append('s'));
        Checks.refuses("a bad one is told as bad", Checks.ARGUMENT, () -> x.append(256));
        Checks.refuses("a bad one is told as bad", Checks.ARGUMENT, () -> x.append(-1));
        Checks.is("120 are in it", 120, x.clearText());
        Checks.is("there is room again", 1, x.append('D'));
    }

    private static void cleared() {
        FrostTubes x = new FrostTubes();
        Checks.is("empty", 0, x.clearText());
        x.append('D');
        Checks.is("one", 1, x.clearText());
        Checks.is("empty then", 0, x.clearText());
        Checks.is("all", 120, Looks.type(x, "D" + "s".repeat(119)).clearText());
        Checks.is("nothing is left of it", 0, x.errorPosition());
        x.append('D');
        Checks.is("nor behind what comes", FrostTubes.NONE, x.errorPosition());
    }

    private static void winters() {
        FrostTubes x = Looks.type(new FrostTubes(), "Dx");
        Checks.is("not yet", 2, x.errorPosition());
        x.append('0');
        Checks.is("now", FrostTubes.NONE, x.errorPosition());
        Checks.is("asked again", FrostTubes.NONE, x.errorPosition());
        x.append('0');
        Checks.is("not any more", 3, x.errorPosition());
        allowed("De031");
        allowed("Dx3");
        allowed("D" + "s".repeat(119));
        Checks.changesNothing("asking", Grounds::half, y -> y.errorPosition());
    }

    private static void asNew() {
        Checks.Recipe used = () -> Looks.type(Grounds.full(), "D");
        Checks.same("D alone", Looks.everything(() -> Looks.type(new FrostTubes(), "D"), x -> 0),
                Looks.everything(used, x -> x.load()));
        Checks.Recipe again = () -> Looks.type(Grounds.full(), "Dst030p000d-300001w");
        Checks.same("and then commands", Looks.everything(() -> Looks.loaded("Dst030p000d-300001w"), x -> 0),
                Looks.everything(again, x -> x.load()));
        FrostTubes twice = Looks.loaded("Dse208");
        twice.load();
        Checks.is("not on top of the load before", 1, twice.about(0));
    }

    private static void nothingRemembered() {
        FrostTubes x = Looks.type(Grounds.full(), "Dswx0");
        x.load();
        Checks.refuses("undo", Checks.STATE, () -> x.undo());
        Checks.refuses("slot 0", Checks.STATE, () -> x.restore(0));
        Checks.refuses("slot 1", Checks.STATE, () -> x.restore(1));
        x.winter();
        Checks.is("the first action behind it is remembered", 0, x.undo());
    }

    private static void keepsText() {
        FrostTubes x = Looks.type(new FrostTubes(), "Dsw");
        x.load();
        Checks.is("still a winter", FrostTubes.NONE, x.errorPosition());
        x.append('q');
        Checks.refuses("not a winter", Checks.STATE, () -> x.load());
        Checks.is("still with its error", 3, x.errorPosition());
        Checks.is("still of its length", 4, x.clearText());
    }

    private static void countsLeftOut() {
        leavesOut(0, "D");
        leavesOut(0, "Ds");
        leavesOut(2, "Dsx1x2x0");
        leavesOut(115, "D" + "s".repeat(119));
        leavesOut(59, "D" + "x0".repeat(59));
    }

    private static void notAWinter() {
        String[] texts = {"", "s", "Dq", "Dx", "Dt00", "Ds ", "D" + "w".repeat(118) + "x"};
        for (String text : texts) {
            Checks.refusesAndChangesNothing("load of " + text, Checks.STATE,
                    () -> Looks.type(Grounds.half(), text), x -> x.load());
        }
    }
}
