/** The boundary cases of promise 28, sentence by sentence. */
public final class ScriptEdgesTest {
    public static void main(String[] args) {
        Checks.sentence("P28", "Runs a script on a copy of the state.", ScriptEdgesTest::onACopy);
        Checks.sentence("P28", "A script has 1 to 3 commands", ScriptEdgesTest::oneToThree);
        Checks.sentence("P28", "the first command is the highest group of the number (with zeros before it, if it "
                + "has fewer digits)", ScriptEdgesTest::highestFirst);
        Checks.sentence("P28", "1 t t s s n: days(-tt, ss, n).", ScriptEdgesTest::coldDays);
        Checks.sentence("P28", "2 t t 0 0 n: days(tt, 0, n).", ScriptEdgesTest::warmDays);
        Checks.sentence("P28", "3 s 0 h h 0: fence(s, hh).", ScriptEdgesTest::fence);
        Checks.sentence("P28", "4 s 0 0 0 0: shovel(s).", ScriptEdgesTest::shovel);
        Checks.sentence("P28", "5 w 0 v v 0: set(w, vv).", ScriptEdgesTest::set);
        Checks.sentence("P28", "6 s 0 c c b: succeeds if the cell cc of the site s is frozen and b is 1, or is not "
                + "and b is 0.", ScriptEdgesTest::cell);
        Checks.sentence("P28", "7 s 0 0 n n: succeeds if the site s has at least nn frozen cells.",
                ScriptEdgesTest::atLeast);
        Checks.sentence("P28", "8 s 0 0 0 n: succeeds if it has n layers.", ScriptEdgesTest::layers);
        Checks.sentence("P28", "9 p 0 h h h: succeeds if the heave of the pipe p is at least hhh.",
                ScriptEdgesTest::heave);
        Checks.sentence("P28", "The commands 1 to 5 fail if the method would throw an exception",
                ScriptEdgesTest::wouldThrow);
        Checks.sentence("P28", "commands with sites, cells or pipes that do not exist fail",
                ScriptEdgesTest::doNotExist);
        Checks.sentence("P28", "and so does any other group", ScriptEdgesTest::otherGroups);
        Checks.sentence("P28", "(also one with another digit where a 0 is written, or a b above 1)",
                ScriptEdgesTest::anotherDigit);
        Checks.sentence("P28", "tt, ss, hh, vv, cc, nn and hhh are decimal numbers.", ScriptEdgesTest::decimal);
        Checks.sentence("P28", "n: number of commands, 1 to 3", ScriptEdgesTest::numberOfCommands);
        Checks.sentence("P28", "the commands, a number of at most 6 * n digits (0 or more)", ScriptEdgesTest::digits);
        Checks.sentence("P28", "Returns the index, from 0, of the first command that fails; NONE if all succeed.",
                ScriptEdgesTest::answers);
        Checks.sentence("P28", "if n is out of range, or if script is negative or has more than 6 * n digits",
                ScriptEdgesTest::refused);
        Checks.finish("ScriptEdgesTest");
    }

    private static void succeeds(FrostTubes x, long group) {
        Checks.is("group " + group + " succeeds", FrostTubes.NONE, x.runScript(1, group));
    }

    private static void fails(FrostTubes x, long group) {
        Checks.is("group " + group + " fails", 0, x.runScript(1, group));
    }

    private static void runs(int due, FrostTubes x, int n, long script) {
        Checks.is("runScript(" + n + ", " + script + ")", due, x.runScript(n, script));
    }

    private static void onACopy() {
        long[] scripts = {130309, 230009, 310200, 400000, 500030, 510090, 520500};
        for (long script : scripts) {
            Checks.changesNothing("script " + script, Grounds::half, x -> x.runScript(1, script));
            Checks.changesNothing("script " + script, Grounds::full, x -> x.runScript(1, script));
        }
        FrostTubes x = Grounds.bare(1);
        runs(FrostTubes.NONE, x, 2, 130001_700005L);
        runs(FrostTubes.NONE, x, 1, 700000);
        runs(0, x, 1, 700001);
        runs(FrostTubes.NONE, x, 3, 130001_700005L * 1000000 + 600041);
    }

    private static void oneToThree() {
        FrostTubes x = Grounds.bare(1);
        runs(FrostTubes.NONE, x, 1, 104001);
        runs(FrostTubes.NONE, x, 2, 104001_600001L);
        runs(FrostTubes.NONE, x, 3, 104001_600001_203001L);
        runs(2, x, 3, 104001_203001_600001L);
        runs(1, x, 2, 104001_600000L);
    }

    private static void highestFirst() {
        FrostTubes x = Grounds.bare(1);
        runs(FrostTubes.NONE, x, 2, 600000_104001L);
        runs(0, x, 2, 600001_104001L);
        runs(FrostTubes.NONE, x, 3, 600000_104001_600001L);
        runs(0, x, 2, 104001);
        runs(0, x, 3, 104001);
        runs(0, x, 3, 104001_104001L);
        runs(0, x, 3, 0);
        runs(0, x, 1, 4001);
    }

    private static void coldDays() {
        FrostTubes x = Grounds.bare(1);
        succeeds(x, 100001);
        succeeds(x, 130001);
        fails(x, 131001);
        fails(x, 199001);
        succeeds(x, 100301);
        fails(x, 100311);
        fails(x, 100991);
        fails(x, 100000);
        succeeds(x, 100009);
        runs(FrostTubes.NONE, x, 2, 130001_700005L);
        runs(1, x, 2, 130001_700006L);
        runs(FrostTubes.NONE, x, 2, 130009_700020L);
        runs(1, x, 2, 130009_700021L);
        runs(FrostTubes.NONE, x, 2, 102101_700000L);
        runs(1, x, 2, 104011_700001L);
    }

    private static void warmDays() {
        FrostTubes x = Grounds.freeze(Grounds.bare(1), 30);
        succeeds(x, 200001);
        succeeds(x, 230001);
        fails(x, 231001);
        fails(x, 299001);
        fails(x, 200000);
        succeeds(x, 200009);
        fails(x, 200101);
        fails(x, 200011);
        runs(FrostTubes.NONE, x, 2, 225001_800000L);
        runs(FrostTubes.NONE, x, 2, 224001_600041L);
        runs(FrostTubes.NONE, x, 2, 203009_800000L);
        runs(FrostTubes.NONE, x, 2, 203008_600041L);
        runs(FrostTubes.NONE, Grounds.bare(1), 3, 200009_104001_600001L);
    }

    private static void fence() {
        FrostTubes x = Grounds.bare(4);
        succeeds(x, 300000);
        succeeds(x, 300200);
        fails(x, 300210);
        fails(x, 300990);
        succeeds(x, 330200);
        fails(x, 340200);
        runs(FrostTubes.NONE, x, 3, 330040_130201_730001L);
        runs(2, x, 3, 330040_130201_730002L);
        runs(FrostTubes.NONE, x, 3, 330030_130201_730001L);
        runs(FrostTubes.NONE, x, 3, 320200_130201_730002L);
    }

    private static void shovel() {
        FrostTubes x = Grounds.bare(4);
        x.days(0, 30, 3);
        succeeds(x, 400000);
        succeeds(x, 430000);
        fails(x, 440000);
        fails(x, 490000);
        runs(FrostTubes.NONE, x, 3, 430000_130001_730005L);
        runs(2, x, 3, 430000_130001_700001L);
    }

    private static void set() {
        FrostTubes x = Grounds.bare(1);
        x.pipe(0, 0);
        succeeds(x, 500000);
        succeeds(x, 500300);
        fails(x, 500310);
        fails(x, 510000);
        succeeds(x, 510010);
        succeeds(x, 510090);
        fails(x, 510100);
        succeeds(x, 520000);
        succeeds(x, 520500);
        fails(x, 520510);
        fails(x, 530000);
        fails(x, 590010);
        runs(FrostTubes.NONE, x, 3, 520500_104001_900050L);
        runs(2, x, 3, 520490_104001_900050L);
        runs(FrostTubes.NONE, x, 3, 500010_109001_600010L);
    }

    private static void cell() {
        FrostTubes x = Grounds.freeze(Grounds.bare(4), Grounds.COLD_TO[28]);
        succeeds(x, 600001);
        fails(x, 600000);
        succeeds(x, 630281);
        fails(x, 630280);
        succeeds(x, 630290);
        fails(x, 630291);
        fails(x, 600300);
        fails(x, 600301);
        fails(x, 600990);
        fails(x, 640000);
        fails(x, 600002);
        fails(x, 600009);
        fails(x, 600292);
    }

    private static void atLeast() {
        FrostTubes x = Grounds.freeze(Grounds.bare(4), Grounds.COLD_TO[29]);
        succeeds(x, 700000);
        succeeds(x, 730030);
        fails(x, 700031);
        fails(x, 700099);
        FrostTubes few = Grounds.freeze(Grounds.bare(1), 9);
        succeeds(few, 700001);
        succeeds(few, 700002);
        fails(few, 700003);
        FrostTubes none = Grounds.bare(1);
        succeeds(none, 700000);
        fails(none, 700001);
    }

    private static void layers() {
        FrostTubes none = Grounds.bare(1);
        succeeds(none, 800000);
        fails(none, 800001);
        FrostTubes three = Looks.threeLayers();
        fails(three, 800002);
        succeeds(three, 800003);
        fails(three, 800004);
        FrostTubes most = Grounds.mostLayers();
        fails(most, 800009);
        fails(most, 800015);
        fails(most, 800005);
        Grounds.thaw(most, Grounds.WARMTH_TO[10] - Grounds.WARMTH_TO[9] + 3 + 5 + 7 + 9 + 11);
        Checks.is("nine layers are left", 9, most.layers(0, 0));
        succeeds(most, 800009);
        fails(most, 800008);
    }

    private static void heave() {
        FrostTubes x = Grounds.bare(1);
        for (int p = 0; p < 8; p++) {
            x.pipe(0, p == 7 ? 0 : 29);
        }
        x.set(2, 50);
        fails(x, 970001);
        x.days(-4, 0, 1);
        succeeds(x, 970000);
        succeeds(x, 970049);
        succeeds(x, 970050);
        fails(x, 970051);
        fails(x, 970999);
        succeeds(x, 900000);
        fails(x, 900001);
        for (int i = 0; i < 3; i++) {
            x.days(3, 0, 1);
            x.days(-4, 0, 1);
        }
        Checks.is("75, 88 and 94", 94, x.pipeOf(7, 2));
        succeeds(x, 970094);
        fails(x, 970095);
        fails(x, 970194);
    }

    private static void wouldThrow() {
        FrostTubes x = Grounds.onDay(9990);
        succeeds(x, 100009);
        succeeds(x, 200009);
        runs(1, x, 2, 100009_100001L);
        runs(1, x, 2, 200009_200001L);
        FrostTubes y = Grounds.onDay(9991);
        fails(y, 100009);
        fails(y, 200009);
        succeeds(y, 100008);
        FrostTubes none = new FrostTubes();
        fails(none, 300000);
        fails(none, 400000);
        succeeds(none, 130001);
        fails(none, 510000);
    }

    private static void doNotExist() {
        FrostTubes none = new FrostTubes();
        for (int d = 0; d < 10; d++) {
            fails(none, 300000 + 10000 * d);
            fails(none, 400000 + 10000 * d);
            fails(none, 600000 + 10000 * d);
            fails(none, 700000 + 10000 * d);
            fails(none, 800000 + 10000 * d);
            fails(none, 900000 + 10000 * d);
        }
        FrostTubes full = Grounds.full();
        for (int d = 0; d < 10; d++) {
            int due = d < 4 ? FrostTubes.NONE : 0;
            runs(due, full, 1, 300000 + 10000 * d);
            runs(due, full, 1, 400000 + 10000 * d);
            runs(due, full, 1, 600290 + 10000 * d);
            runs(0, full, 1, 600300 + 10000 * d);
            runs(due, full, 1, 700000 + 10000 * d);
            runs(due, full, 1, 800000 + 10000 * d + (d < 4 ? full.layers(d, 0) : 0));
            runs(d < 8 ? FrostTubes.NONE : 0, full, 1, 900000 + 10000 * d);
        }
    }

    private static void otherGroups() {
        FrostTubes x = Grounds.full();
        fails(x, 0);
        fails(x, 1);
        fails(x, 30001);
        fails(x, 99999);
        runs(1, x, 2, 130001_000000L);
        runs(2, x, 3, 130001_200001_000000L);
    }

    private static void anotherDigit() {
        FrostTubes x = Grounds.allFrozen();
        x.pipe(x.site(), 0);
        long[] fine = {200001, 300000, 400000, 500000, 600001, 700000, 800001, 900000};
        int[][] zeros = {{100, 10}, {1000, 1}, {1000, 100, 10, 1}, {1000, 1}, {1000}, {1000, 100}, {1000, 100, 10},
            {1000}};
        for (int i = 0; i < fine.length; i++) {
            succeeds(x, fine[i]);
            for (int place : zeros[i]) {
                for (int digit = 1; digit < 10; digit++) {
                    fails(x, fine[i] + digit * place);
                }
            }
        }
        for (int b = 2; b < 10; b++) {
            fails(x, 600000 + b);
        }
    }

    private static void decimal() {
        FrostTubes x = Grounds.bare(1);
        runs(FrostTubes.NONE, x, 2, 112001_700002L);
        runs(1, x, 2, 112001_700003L);
        runs(FrostTubes.NONE, x, 2, 121101_700002L);
        runs(1, x, 2, 121101_700003L);
        FrostTubes snow = Grounds.bare(1);
        runs(FrostTubes.NONE, snow, 3, 300120_130121_700001L);
        runs(2, snow, 3, 300120_130121_700002L);
        FrostTubes cells = Grounds.freeze(Grounds.bare(1), Grounds.COLD_TO[12]);
        succeeds(cells, 600121);
        succeeds(cells, 600130);
        succeeds(cells, 600210);
        succeeds(cells, 700013);
        fails(cells, 700014);
        fails(cells, 700031);
        FrostTubes heaved = Grounds.bare(1);
        heaved.pipe(0, 0);
        runs(FrostTubes.NONE, heaved, 3, 520320_104001_900032L);
        runs(2, heaved, 3, 520320_104001_900033L);
        runs(2, heaved, 3, 520320_104001_900320L);
    }

    private static void numberOfCommands() {
        FrostTubes x = Grounds.bare(1);
        runs(FrostTubes.NONE, x, 1, 400000);
        runs(FrostTubes.NONE, x, 3, 400000_400000_400000L);
        for (int n : new int[] {0, 4, -1, Integer.MIN_VALUE, Integer.MAX_VALUE}) {
            Checks.refusesAndChangesNothing("n " + n, Checks.ARGUMENT, Grounds::half, y -> y.runScript(n, 400000));
            Checks.refuses("n " + n + ", and 0", Checks.ARGUMENT, () -> x.runScript(n, 0));
        }
    }

    private static void digits() {
        FrostTubes x = Grounds.bare(1);
        long limit = 1;
        for (int n = 1; n <= 3; n++) {
            int commands = n;
            limit *= 1000000;
            long behind = limit;
            runs(0, x, n, 0);
            runs(0, x, n, limit - 1);
            Checks.refuses("one digit more", Checks.ARGUMENT, () -> x.runScript(commands, behind));
            Checks.refuses("one digit more", Checks.ARGUMENT, () -> x.runScript(commands, behind + 400000));
            Checks.refuses("below 0", Checks.ARGUMENT, () -> x.runScript(commands, -1));
        }
    }

    private static void answers() {
        FrostTubes x = Grounds.bare(1);
        runs(FrostTubes.NONE, x, 3, 400000_400000_400000L);
        runs(0, x, 3, 999999_400000_400000L);
        runs(1, x, 3, 400000_999999_400000L);
        runs(2, x, 3, 400000_400000_999999L);
        runs(0, x, 3, 999999_999999_999999L);
        runs(1, x, 3, 400000_999999_999999L);
        runs(0, x, 1, 999999);
        runs(1, x, 2, 400000_999999L);
    }

    private static void refused() {
        long[][] bad = {{0, 0}, {4, 400000}, {1, -1}, {2, -1}, {3, -1}, {1, 1000000}, {1, 400000_400000L},
            {2, 1000000_000000L}, {3, 1000000_000000_000000L}, {3, Long.MAX_VALUE}, {3, Long.MIN_VALUE},
            {1, Long.MIN_VALUE}, {0, -1}, {4, -1}, {4, Long.MAX_VALUE}, {1, 1L << 32}};
        for (long[] b : bad) {
            Checks.refusesAndChangesNothing("runScript(" + b[0] + ", " + b[1] + ")", Checks.ARGUMENT, Grounds::half,
                    x -> x.runScript((int) b[0], b[1]));
        }
    }
}
