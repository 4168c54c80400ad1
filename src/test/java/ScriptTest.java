/** Promise 28. */
public final class ScriptTest {
    public static void main(String[] args) {
        days();
        warmDays();
        fenceAndShovel();
        settings();
        asking();
        otherGroups();
        severalCommands();
        refuses();
        changesNothing();
        Checks.finish("ScriptTest");
    }

    /** Sites 0 and 1; site 0 with the frozen cells 0, 2 and 4, and pipe 0 in its cell 1; day 5. */
    private static FrostTubes ground() {
        FrostTubes x = Looks.threeLayers();
        x.site();
        x.pipe(0, 1);
        return x;
    }

    private static void runs(String what, int due, int n, long script) {
        Checks.is("P28: " + what + ": " + script, due, ground().runScript(n, script));
    }

    private static void succeeds(long script) {
        runs("succeeds", FrostTubes.NONE, 1, script);
    }

    private static void fails(long script) {
        runs("fails", 0, 1, script);
    }

    private static void days() {
        succeeds(130001);
        succeeds(130309);
        succeeds(100009);
        fails(131001);
        fails(130311);
        fails(130000);
        runs("freezes 1, 3 and 5", FrostTubes.NONE, 2, 130001_600051L);
        runs("but not 6", 1, 2, 130001_600061L);
        runs("nine days", FrostTubes.NONE, 2, 130009_700019L);
        runs("snow of 20 leaves 10 of cold", FrostTubes.NONE, 3, 130201_600011_600030L);
        FrostTubes x = ground();
        for (int i = 0; i < 166; i++) {
            x.days(0, 0, 60);
        }
        x.days(0, 0, 30);
        Checks.is("P28: days", 9995, x.about(3));
        Checks.is("P28: 9999", FrostTubes.NONE, x.runScript(1, 100004));
        Checks.is("P28: 10000", 0, x.runScript(1, 100005));
        Checks.is("P28: 10000, the second", 1, x.runScript(2, 200003_200002L));
    }

    private static void warmDays() {
        succeeds(203001);
        succeeds(230009);
        succeeds(200001);
        fails(231001);
        fails(203101);
        fails(203011);
        fails(203000);
        runs("thaws 0", FrostTubes.NONE, 2, 203001_600000L);
        runs("thaws 0", 1, 2, 203001_600001L);
        runs("without new snow, so that 5 of cold freeze cell 1", FrostTubes.NONE, 3, 200009_105001_600011L);
    }

    private static void fenceAndShovel() {
        succeeds(300200);
        succeeds(310000);
        fails(300210);
        fails(320000);
        fails(301200);
        fails(300201);
        runs("300 / 40 freeze cell 1 alone", FrostTubes.NONE, 3, 300100_130201_700004L);
        runs("300 / 40 freeze cell 1 alone", 2, 3, 300100_130201_700005L);
        succeeds(400000);
        succeeds(410000);
        fails(420000);
        fails(401000);
        fails(400100);
        fails(400010);
        fails(400001);
        FrostTubes x = ground();
        x.days(0, 30, 1);
        Checks.is("P28: under snow", 1, x.runScript(2, 130001_600031L));
        Checks.is("P28: shovelled", FrostTubes.NONE, x.runScript(3, 400000_130001_600031L));
    }

    private static void settings() {
        succeeds(500300);
        succeeds(500000);
        succeeds(510010);
        succeeds(510090);
        succeeds(520500);
        fails(500310);
        fails(510000);
        fails(510100);
        fails(520510);
        fails(530010);
        fails(501010);
        fails(500011);
        runs("each day the lowest thaws", FrostTubes.NONE, 3, 500010_200001_600040L);
        runs("heaved by 37", FrostTubes.NONE, 3, 520370_105001_900037L);
        runs("heaved by 37", 2, 3, 520370_105001_900038L);
    }

    private static void asking() {
        succeeds(600001);
        fails(600000);
        fails(600011);
        succeeds(600010);
        succeeds(600290);
        fails(600300);
        fails(600002);
        fails(600012);
        fails(600999);
        fails(601001);
        succeeds(610000);
        fails(620000);
        fails(690000);
        succeeds(700000);
        succeeds(700003);
        fails(700004);
        fails(700099);
        succeeds(710000);
        fails(710001);
        fails(720000);
        fails(701003);
        fails(700103);
        succeeds(800003);
        fails(800002);
        fails(800004);
        succeeds(810000);
        fails(820000);
        fails(801003);
        fails(800103);
        fails(800013);
        succeeds(900000);
        fails(900001);
        fails(910000);
        fails(980000);
        fails(901000);
        FrostTubes x = Looks.threeLayers();
        x.set(2, 50);
        x.days(3, 0, 1);
        x.pipe(0, 0);
        for (int i = 0; i < 9; i++) {
            x.days(-4, 0, 1);
            x.days(3, 0, 1);
        }
        int heave = x.pipeOf(0, 2);
        Checks.is("P28: as much", FrostTubes.NONE, x.runScript(1, 900000 + heave));
        Checks.is("P28: one more", 0, x.runScript(1, 900001 + heave));
        Checks.is("P28: 999", 0, x.runScript(1, 900999));
    }

    private static void otherGroups() {
        fails(0);
        fails(1);
        fails(99999);
        runs("a group of zeros", 0, 2, 130001);
        runs("a group of zeros", 0, 3, 130001);
        runs("a group of zeros at last", 1, 2, 130001_000000L);
    }

    private static void severalCommands() {
        runs("the highest first", 0, 2, 600051_130001L);
        runs("all three", FrostTubes.NONE, 3, 600050_130001_600051L);
        runs("the first", 0, 3, 999999_999999_999999L);
        runs("the second", 1, 3, 400000_999999_999999L);
        runs("the third", 2, 3, 400000_400000_999999L);
        runs("the third", 2, 3, 200001_200001_800002L);
    }

    private static void refuses() {
        FrostTubes x = ground();
        Checks.refuses("P28: n 0", Checks.ARGUMENT, () -> x.runScript(0, 0));
        Checks.refuses("P28: n 4", Checks.ARGUMENT, () -> x.runScript(4, 400000));
        Checks.refuses("P28: n -1", Checks.ARGUMENT, () -> x.runScript(-1, 0));
        Checks.refuses("P28: greatest n", Checks.ARGUMENT, () -> x.runScript(Integer.MAX_VALUE, 0));
        Checks.refuses("P28: negative", Checks.ARGUMENT, () -> x.runScript(1, -1));
        Checks.refuses("P28: least", Checks.ARGUMENT, () -> x.runScript(3, Long.MIN_VALUE));
        Checks.refuses("P28: 7 digits", Checks.ARGUMENT, () -> x.runScript(1, 1000000));
        Checks.refuses("P28: 13 digits", Checks.ARGUMENT, () -> x.runScript(2, 1000000000000L));
        Checks.refuses("P28: 19 digits", Checks.ARGUMENT, () -> x.runScript(3, 1000000000000000000L));
        Checks.refuses("P28: greatest", Checks.ARGUMENT, () -> x.runScript(3, Long.MAX_VALUE));
        Checks.is("P28: 6 digits", 0, x.runScript(1, 999999));
        Checks.is("P28: 12 digits", 0, x.runScript(2, 999999999999L));
        Checks.is("P28: 18 digits", 0, x.runScript(3, 999999999999999999L));
        Checks.refusesAndChangesNothing("P28: n 4", Checks.ARGUMENT, () -> ground(), y -> y.runScript(4, 400000));
    }

    private static void changesNothing() {
        Checks.changesNothing("P28: days", () -> ground(), x -> x.runScript(3, 130309_300200_500010L));
        Checks.changesNothing("P28: that fails", () -> ground(), x -> x.runScript(3, 130309_300200_999999L));
        FrostTubes x = ground();
        Checks.is("P28: each run from the present state", FrostTubes.NONE, x.runScript(2, 130001_600051L));
        Checks.is("P28: each run from the present state", FrostTubes.NONE, x.runScript(1, 600050));
    }
}
