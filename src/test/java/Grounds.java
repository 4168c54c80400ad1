/** Objects to begin tests with, and weather of a known sum. */
final class Grounds {
    /** How much cold freezes the cells 0 to c, and how much warmth thaws them. */
    static final int[] COLD_TO = new int[30];
    static final int[] WARMTH_TO = new int[30];

    static {
        int cold = 0;
        int warmth = 0;
        for (int c = 0; c < 30; c++) {
            cold += 4 + c;
            warmth += 3 + c;
            COLD_TO[c] = cold;
            WARMTH_TO[c] = warmth;
        }
    }

    private Grounds() {
    }

    /** Sites without a thaw from below. */
    static FrostTubes bare(int sites) {
        FrostTubes x = new FrostTubes();
        x.set(0, 0);
        for (int s = 0; s < sites; s++) {
            x.site();
        }
        return x;
    }

    /** So much cold, at each site without snow. */
    static FrostTubes freeze(FrostTubes x, int cold) {
        if (cold >= 30) {
            x.days(-30, 0, cold / 30);
        }
        if (cold % 30 > 0) {
            x.days(-(cold % 30), 0, 1);
        }
        return x;
    }

    /** So much warmth, at each site without snow. */
    static FrostTubes thaw(FrostTubes x, int warmth) {
        if (warmth >= 30) {
            x.days(30, 0, warmth / 30);
        }
        if (warmth % 30 > 0) {
            x.days(warmth % 30, 0, 1);
        }
        return x;
    }

    /** A site with all cells frozen, and nothing stored. */
    static FrostTubes allFrozen() {
        return freeze(bare(1), COLD_TO[29]);
    }

    /** A site with every second cell frozen from 0 to 28: as many layers as there can be. */
    static FrostTubes mostLayers() {
        FrostTubes x = bare(1);
        for (int c = 28; c >= 0; c -= 2) {
            freeze(x, COLD_TO[c]);
            if (c > 0) {
                thaw(x, WARMTH_TO[c - 1]);
            }
        }
        return x;
    }

    /** A site, and so many days gone by. */
    static FrostTubes onDay(int day) {
        FrostTubes x = bare(1);
        for (int i = 0; i < day / 60; i++) {
            x.days(0, 0, 60);
        }
        if (day % 60 > 0) {
            x.days(0, 0, day % 60);
        }
        return x;
    }

    /** As many sites, tubes, pipes, remembered states, saved states and characters as there can be. */
    static FrostTubes full() {
        FrostTubes x = bare(4);
        for (int i = 0; i < 8; i++) {
            x.tube(i % 4, 30 - 4 * i);
            x.pipe(i % 4, 29 - 4 * i);
        }
        x.days(-30, 0, 2);
        x.days(18, 0, 1);
        x.days(-9, 0, 1);
        x.fence(1, 20);
        x.save(0);
        x.days(-3, 12, 1);
        x.winter();
        x.days(-10, 0, 1);
        x.save(1);
        x.shovel(2);
        x.days(-20, 1, 2);
        for (int v = 1; v <= 6; v++) {
            x.set(2, 8 * v);
        }
        return Looks.type(x, "D" + "s".repeat(119));
    }

    /** Some of everything, and room for more: three states are remembered, and slot 0 is empty. */
    static FrostTubes half() {
        FrostTubes x = Looks.threeLayers();
        x.site();
        x.tube(0, 3);
        x.tube(1, 30);
        x.pipe(0, 1);
        x.pipe(0, 3);
        x.save(1);
        x.restore(1);
        x.fence(1, 5);
        x.days(-8, 2, 2);
        x.set(1, 3);
        return Looks.type(x, "Dst003p002d-300001");
    }
}
