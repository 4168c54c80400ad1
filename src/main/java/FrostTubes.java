import java.util.Arrays;

/** Sites of ground that freezes and thaws, with tubes and pipes in it; ../shared/DOC.md tells what each call does. */
public final class FrostTubes {
    public static final int NONE = -1;

    private static final int SITES = 4;
    private static final int CELLS = 30;
    private static final int TUBES = 8;
    private static final int PIPES = 8;
    private static final int SETTINGS = 3;
    private static final int SLOTS = 2;
    private static final int REMEMBERED = 14;
    private static final int TEXT_ROOM = 120;

    private static final int HIGHEST_FENCE = 20;
    private static final int DEEPEST_SNOW = 99;
    private static final int MOST_DEGREES = 30;
    private static final int MOST_NEW_SNOW = 30;
    private static final int MOST_DAYS = 60;
    private static final int LAST_DAY = 9999;
    private static final int FORESEEN_DAYS = 400;
    private static final int MOST_TURNS = 60;
    private static final int MOST_COMMANDS = 3;
    private static final int GROUP = 1000000;

    private static final int[] LEAST_SETTING = {0, 1, 0};
    private static final int[] MOST_SETTING = {30, 9, 50};
    private static final int MOST_VALUE = 50;
    private static final int THAW_FROM_BELOW = 0;
    private static final int MELT_RATE = 1;
    private static final int HEAVE_STEP = 2;

    // The actions go by their letters in the text, so that a command that is read can be done as it is.
    private static final int ADD_SITE = 's';
    private static final int ADD_TUBE = 't';
    private static final int ADD_PIPE = 'p';
    private static final int BUILD_FENCE = 'f';
    private static final int CLEAR_SNOW = 'x';
    private static final int PASS_DAYS = 'd';
    private static final int CHANGE_SETTING = 'e';
    private static final int BEGIN_WINTER = 'w';

    // What forbids an action. They are numbers, since scripts, simulations and texts leave such actions out.
    private static final int FINE = 0;
    private static final int NO_SUCH = 1;
    private static final int OUT_OF_RANGE = 2;
    private static final int NOT_NOW = 3;

    private final Text text = new Text();
    private final Ground now = new Ground();
    private final Ground trial = new Ground();
    private final Ground untouched = new Ground();
    private final Past past = new Past();
    private final Ground[] slots = new Ground[SLOTS];
    private final boolean[] slotFull = new boolean[SLOTS];

    public FrostTubes() {
        for (int i = 0; i < SLOTS; i++) {
            slots[i] = new Ground();
        }
    }

    // ---- text

    public int append(int c) throws IllegalArgumentException, IllegalStateException {
        needRange(c, 0, 255);
        if (text.length >= TEXT_ROOM) {
            throw new IllegalStateException("the text is full");
        }
        text.put(c);
        return text.length;
    }

    public int clearText() {
        int previous = text.length;
        text.length = 0;
        return previous;
    }

    public int errorPosition() {
        return text.findError();
    }

    public int load() throws IllegalStateException {
        if (text.findError() != NONE) {
            throw new IllegalStateException("the text is not a winter");
        }
        now.copyFrom(untouched);
        past.forgetAll();
        for (int i = 0; i < SLOTS; i++) {
            slotFull[i] = false;
        }
        int leftOut = 0;
        text.startReading();
        for (int i = 0; i < TEXT_ROOM && text.hasCommand(); i++) {
            text.readCommand();
            if (now.perform(text.action, text.first, text.second, text.third) == NONE) {
                leftOut++;
            }
        }
        return leftOut;
    }

    // ---- what there is

    public int about(int what) throws IllegalArgumentException {
        needRange(what, 0, 11);
        return now.numberOf(what);
    }

    public int siteOf(int s, int what) throws IndexOutOfBoundsException, IllegalArgumentException {
        needSite(s);
        needRange(what, 0, 8);
        return now.sites[s].numberOf(what);
    }

    public int since(int s, int c) throws IndexOutOfBoundsException {
        needSite(s);
        needCell(c);
        return now.sites[s].frozenSince[c];
    }

    public int layerOf(int s, int k, int what) throws IndexOutOfBoundsException, IllegalArgumentException {
        needSite(s);
        int first = now.sites[s].firstOfLayer(k);
        if (first == NONE) {
            throw new IndexOutOfBoundsException("no such layer");
        }
        needRange(what, 0, 3);
        return now.sites[s].numberOfLayer(first, what);
    }

    public int tubeOf(int t, int what) throws IndexOutOfBoundsException, IllegalArgumentException {
        if (t < 0 || t >= now.tubeCount) {
            throw new IndexOutOfBoundsException("no such tube");
        }
        needRange(what, 0, 5);
        return now.numberOfTube(t, what);
    }

    public int pipeOf(int p, int what) throws IndexOutOfBoundsException, IllegalArgumentException {
        needPipe(p);
        needRange(what, 0, 4);
        return now.numberOfPipe(p, what);
    }

    public int layers(int s, int way) throws IndexOutOfBoundsException, IllegalArgumentException {
        needSite(s);
        needRange(way, 0, 1);
        return way == 0 ? now.sites[s].layersWithin(CELLS) : now.sites[s].layersAsTheyFroze();
    }

    public int oldest(int rank) throws IndexOutOfBoundsException {
        if (rank < 0 || rank >= now.frozenCells()) {
            throw new IndexOutOfBoundsException("not so many frozen cells");
        }
        int key = NONE;
        for (int i = 0; i <= rank; i++) {
            key = now.nextAgeKey(key);
        }
        return key % Ground.KEY_DAY;
    }

    // ---- actions

    public int site() throws IllegalStateException {
        return act(ADD_SITE, 0, 0, 0);
    }

    public int tube(int s, int length)
            throws IndexOutOfBoundsException, IllegalArgumentException, IllegalStateException {
        return act(ADD_TUBE, s, length, 0);
    }

    public int pipe(int s, int c) throws IndexOutOfBoundsException, IllegalStateException {
        return act(ADD_PIPE, s, c, 0);
    }

    public int fence(int s, int height) throws IndexOutOfBoundsException, IllegalArgumentException {
        return act(BUILD_FENCE, s, height, 0);
    }

    public int shovel(int s) throws IndexOutOfBoundsException {
        return act(CLEAR_SNOW, s, 0, 0);
    }

    public int days(int t, int snow, int n) throws IllegalArgumentException, IllegalStateException {
        return act(PASS_DAYS, t, snow, n);
    }

    public int winter() {
        return act(BEGIN_WINTER, 0, 0, 0);
    }

    public int set(int what, int v) throws IllegalArgumentException {
        return act(CHANGE_SETTING, what, v, 0);
    }

    public int undo() throws IllegalStateException {
        if (past.count <= 0) {
            throw new IllegalStateException("nothing is remembered");
        }
        past.takeBack(now);
        return past.count;
    }

    // ---- what would be

    public int goneIn(int s, int t) throws IndexOutOfBoundsException, IllegalArgumentException {
        needSite(s);
        needRange(t, 1, MOST_DEGREES);
        trial.copyFrom(now);
        Site ground = trial.sites[s];
        for (int gone = 0; gone <= FORESEEN_DAYS; gone++) {
            if (ground.lowestWithin(CELLS) == NONE) {
                return gone;
            }
            trial.passDaysAt(s, t, 0, 1);
        }
        return NONE;
    }

    public int reachedIn(int s, int c, int t) throws IndexOutOfBoundsException, IllegalArgumentException {
        needSite(s);
        needCell(c);
        needRange(t, -MOST_DEGREES, -1);
        trial.copyFrom(now);
        Site ground = trial.sites[s];
        for (int gone = 0; gone <= FORESEEN_DAYS; gone++) {
            if (ground.isFrozen(c)) {
                return gone;
            }
            trial.passDaysAt(s, t, 0, 1);
        }
        return NONE;
    }

    public int bestFence(int s, int t, int snow, int n) throws IndexOutOfBoundsException, IllegalArgumentException {
        needSite(s);
        needRange(t, -MOST_DEGREES, MOST_DEGREES);
        needRange(snow, 0, MOST_NEW_SNOW);
        needRange(n, 1, MOST_DAYS);
        int best = 0;
        int fewest = CELLS + 1;
        for (int height = 0; height <= HIGHEST_FENCE; height++) {
            trial.copyFrom(now);
            trial.sites[s].fenceHeight = height;
            trial.passDaysAt(s, t, snow, n);
            int frozen = trial.sites[s].frozenWithin(CELLS);
            if (frozen < fewest) {
                fewest = frozen;
                best = height;
            }
        }
        return best;
    }

    public int heaveIn(int p, int t, int n) throws IndexOutOfBoundsException, IllegalArgumentException {
        needPipe(p);
        needRange(t, -MOST_DEGREES, MOST_DEGREES);
        needRange(n, 1, MOST_DAYS);
        trial.copyFrom(now);
        trial.passDaysAt(trial.pipeSite[p], t, 0, n);
        return trial.pipeHeave[p];
    }

    public int deepest() {
        int best = NONE;
        int bestLowest = NONE;
        int bestFrozen = 0;
        for (int s = 0; s < now.siteCount; s++) {
            int lowest = now.sites[s].lowestWithin(CELLS);
            int frozen = now.sites[s].frozenWithin(CELLS);
            if (lowest > bestLowest || lowest == bestLowest && frozen > bestFrozen) {
                best = s;
                bestLowest = lowest;
                bestFrozen = frozen;
            }
        }
        return best;
    }

    // ---- scripts, simulations

    public int runScript(int n, long script) throws IllegalArgumentException {
        needRange(n, 1, MOST_COMMANDS);
        long limit = 1;
        for (int i = 0; i < n; i++) {
            limit *= GROUP;
        }
        if (script < 0 || script >= limit) {
            throw new IllegalArgumentException("not a script of so many commands");
        }
        trial.copyFrom(now);
        for (int i = 0; i < n; i++) {
            if (!scriptCommand(scriptGroup(n, script, i))) {
                return i;
            }
        }
        return NONE;
    }

    public int simulate(long seed, int m) throws IllegalArgumentException {
        needRange(m, 1, MOST_TURNS);
        trial.copyFrom(now);
        long x = seed;
        for (int i = 0; i < m; i++) {
            x = x * 6364136223846793005L + 1442695040888963407L;
            simulatedTurn((int) (x >>> 33));
        }
        return 10000 * trial.layersOfAll() + 10 * trial.frozenCells() + trial.siteCount;
    }

    // ---- save slots

    public int save(int slot) throws IndexOutOfBoundsException {
        needSlot(slot);
        slots[slot].copyFrom(now);
        slotFull[slot] = true;
        return now.dayCount;
    }

    public int restore(int slot) throws IndexOutOfBoundsException, IllegalStateException {
        needSlot(slot);
        if (!slotFull[slot]) {
            throw new IllegalStateException("nothing is saved there");
        }
        now.copyFrom(slots[slot]);
        past.forgetAll();
        return now.dayCount;
    }

    // ---- helpers

    private int act(int action, int a, int b, int c) {
        int fault = now.faultOf(action, a, b, c);
        if (fault == NO_SUCH) {
            throw new IndexOutOfBoundsException("no such site or cell");
        }
        if (fault == OUT_OF_RANGE) {
            throw new IllegalArgumentException("an argument is out of its range");
        }
        if (fault == NOT_NOW) {
            throw new IllegalStateException("not possible now");
        }
        past.remember(now);
        return now.perform(action, a, b, c);
    }

    private static void needRange(int v, int least, int most) {
        if (v < least || v > most) {
            throw new IllegalArgumentException("an argument is out of its range");
        }
    }

    private static void needCell(int c) {
        if (c < 0 || c >= CELLS) {
            throw new IndexOutOfBoundsException("no such cell");
        }
    }

    private static void needSlot(int slot) {
        if (slot < 0 || slot >= SLOTS) {
            throw new IndexOutOfBoundsException("no such save slot");
        }
    }

    private void needSite(int s) {
        if (!now.hasSite(s)) {
            throw new IndexOutOfBoundsException("no such site");
        }
    }

    private void needPipe(int p) {
        if (!now.hasPipe(p)) {
            throw new IndexOutOfBoundsException("no such pipe");
        }
    }

    private static int scriptGroup(int n, long script, int i) {
        long rest = script;
        for (int behind = n - 1; behind > i; behind--) {
            rest /= GROUP;
        }
        return (int) (rest % GROUP);
    }

    private boolean scriptCommand(int group) {
        int d2 = group / 10000 % 10;
        int d3 = group / 1000 % 10;
        int d4 = group / 100 % 10;
        int d6 = group % 10;
        int d23 = group / 1000 % 100;
        int d45 = group / 10 % 100;
        switch (group / 100000) {
            case 1:
                return trial.perform(PASS_DAYS, -d23, d45, d6) != NONE;
            case 2:
                return d45 == 0 && trial.perform(PASS_DAYS, d23, 0, d6) != NONE;
            case 3:
                return d3 == 0 && d6 == 0 && trial.perform(BUILD_FENCE, d2, d45, 0) != NONE;
            case 4:
                return group % 10000 == 0 && trial.perform(CLEAR_SNOW, d2, 0, 0) != NONE;
            case 5:
                return d3 == 0 && d6 == 0 && trial.perform(CHANGE_SETTING, d2, d45, 0) != NONE;
            case 6:
                return d3 == 0 && d6 <= 1 && d45 < CELLS && trial.hasSite(d2)
                        && trial.sites[d2].isFrozen(d45) == (d6 == 1);
            case 7:
                return d3 == 0 && d4 == 0 && trial.hasSite(d2)
                        && trial.sites[d2].frozenWithin(CELLS) >= group % 100;
            case 8:
                return d3 == 0 && d45 == 0 && trial.hasSite(d2)
                        && trial.sites[d2].layersWithin(CELLS) == d6;
            case 9:
                return d3 == 0 && trial.hasPipe(d2) && trial.pipeHeave[d2] >= group % 1000;
            default:
                return false;
        }
    }

    private void simulatedTurn(int r) {
        int q = r / 16;
        switch (r % 16) {
            case 0:
                trial.perform(ADD_SITE, 0, 0, 0);
                break;
            case 1:
                trial.perform(ADD_TUBE, q % 4, 1 + q / 4 % 30, 0);
                break;
            case 2:
                trial.perform(ADD_PIPE, q % 4, q / 4 % 30, 0);
                break;
            case 3:
                trial.perform(BUILD_FENCE, q % 4, q / 4 % 21, 0);
                break;
            case 4:
                trial.perform(CLEAR_SNOW, q % 4, 0, 0);
                break;
            case 5:
                trial.perform(CHANGE_SETTING, q % 3, q / 4 % 31, 0);
                break;
            case 6:
                trial.perform(BEGIN_WINTER, 0, 0, 0);
                break;
            case 7:
            case 8:
            case 9:
            case 10:
            case 11:
                trial.perform(PASS_DAYS, -(q % 31), q / 32 % 4, 1 + q / 128 % 6);
                break;
            default:
                trial.perform(PASS_DAYS, q % 16, 0, 1 + q / 16 % 4);
                break;
        }
    }

    /** One site: its snow, what it stores, and since when each of its cells is frozen. */
    private static final class Site {
        int snow;
        int fenceHeight;
        int cold;
        int warmth;
        int coldSum;
        final int[] frozenSince = new int[CELLS];

        Site() {
            Arrays.fill(frozenSince, NONE);
        }

        void copyFrom(Site other) {
            snow = other.snow;
            fenceHeight = other.fenceHeight;
            cold = other.cold;
            warmth = other.warmth;
            coldSum = other.coldSum;
            System.arraycopy(other.frozenSince, 0, frozenSince, 0, CELLS);
        }

        boolean isFrozen(int c) {
            return c >= 0 && c < CELLS && frozenSince[c] != NONE;
        }

        int frozenWithin(int end) {
            int frozen = 0;
            for (int c = 0; c < end && c < CELLS; c++) {
                if (isFrozen(c)) {
                    frozen++;
                }
            }
            return frozen;
        }

        int layersWithin(int end) {
            int layers = 0;
            for (int c = 0; c < end && c < CELLS; c++) {
                if (beginsLayer(c)) {
                    layers++;
                }
            }
            return layers;
        }

        int lowestWithin(int end) {
            int lowest = NONE;
            for (int c = 0; c < end && c < CELLS; c++) {
                if (isFrozen(c)) {
                    lowest = c;
                }
            }
            return lowest;
        }

        boolean beginsLayer(int c) {
            return isFrozen(c) && !isFrozen(c - 1);
        }

        /** What a cell adds depends only on its neighbours that froze before it, so the cells need no sorting. */
        int layersAsTheyFroze() {
            int layers = 0;
            for (int c = 0; c < CELLS; c++) {
                if (isFrozen(c)) {
                    layers += 1 - (frozeBefore(c - 1, c) ? 1 : 0) - (frozeBefore(c + 1, c) ? 1 : 0);
                }
            }
            return layers;
        }

        /** On one day the cells of a site freeze from the top down. */
        boolean frozeBefore(int c, int later) {
            if (!isFrozen(c) || !isFrozen(later)) {
                return false;
            }
            int day = frozenSince[c];
            int laterDay = frozenSince[later];
            return day < laterDay || day == laterDay && c < later;
        }

        int firstOfLayer(int k) {
            int layer = NONE;
            for (int c = 0; c < CELLS; c++) {
                if (beginsLayer(c)) {
                    layer++;
                    if (layer == k) {
                        return c;
                    }
                }
            }
            return NONE;
        }

        int endOfLayer(int first) {
            int end = first;
            while (end < CELLS && isFrozen(end)) {
                end++;
            }
            return end;
        }

        int gapBelow(int end) {
            for (int c = end; c < CELLS; c++) {
                if (isFrozen(c)) {
                    return c - end;
                }
            }
            return 0;
        }

        int oldestDay(int first, int end) {
            int oldest = LAST_DAY;
            for (int c = first; c < end && c < CELLS; c++) {
                if (isFrozen(c)) {
                    oldest = Math.min(oldest, frozenSince[c]);
                }
            }
            return oldest;
        }

        int numberOfLayer(int first, int what) {
            int end = endOfLayer(first);
            switch (what) {
                case 0:
                    return first;
                case 1:
                    return end - first;
                case 2:
                    return gapBelow(end);
                default:
                    return oldestDay(first, end);
            }
        }

        int numberOf(int what) {
            switch (what) {
                case 0:
                    return snow;
                case 1:
                    return fenceHeight;
                case 2:
                    return cold;
                case 3:
                    return warmth;
                case 4:
                    return coldSum;
                case 5:
                    return frozenWithin(CELLS);
                case 6:
                    return layersWithin(CELLS);
                case 7:
                    return lowestWithin(CELLS);
                default:
                    return isFrozen(0) ? 1 : 0;
            }
        }

        void takeSnow(int fallen) {
            snow = Math.min(DEEPEST_SNOW, snow + fallen + Math.min(fallen, fenceHeight));
        }

        void takeTemperature(int t, int meltRate) {
            if (t > 0) {
                int melted = Math.min(snow, t * meltRate);
                snow -= melted;
                if (snow == 0 && meltRate > 0) {
                    warmth += t - melted / meltRate;
                }
                cold = 0;
            } else if (t < 0) {
                int shelter = 10 + snow;
                int coldOfDay = shelter > 0 ? 10 * -t / shelter : 0;
                cold += coldOfDay;
                coldSum += coldOfDay;
                warmth = 0;
            }
        }
    }

    /** A whole state. Rows and sites beyond the counts stay as they are made, since every copy takes all of them. */
    private static final class Ground {
        static final int KEY_DAY = 1000;
        static final int NO_KEY = KEY_DAY * (LAST_DAY + 1);

        int siteCount;
        int tubeCount;
        int pipeCount;
        int dayCount;
        int winterCount;
        int greatestColdSum;
        final int[] settings = {5, 2, 10};
        final Site[] sites = new Site[SITES];
        final int[] tubeSite = new int[TUBES];
        final int[] tubeLength = new int[TUBES];
        final int[] pipeSite = new int[PIPES];
        final int[] pipeCell = new int[PIPES];
        final int[] pipeHeave = new int[PIPES];
        final int[] pipeGreatest = new int[PIPES];
        final int[] pipeTimes = new int[PIPES];

        Ground() {
            for (int s = 0; s < SITES; s++) {
                sites[s] = new Site();
            }
        }

        void copyFrom(Ground other) {
            siteCount = other.siteCount;
            tubeCount = other.tubeCount;
            pipeCount = other.pipeCount;
            dayCount = other.dayCount;
            winterCount = other.winterCount;
            greatestColdSum = other.greatestColdSum;
            System.arraycopy(other.settings, 0, settings, 0, SETTINGS);
            for (int s = 0; s < SITES; s++) {
                sites[s].copyFrom(other.sites[s]);
            }
            System.arraycopy(other.tubeSite, 0, tubeSite, 0, TUBES);
            System.arraycopy(other.tubeLength, 0, tubeLength, 0, TUBES);
            System.arraycopy(other.pipeSite, 0, pipeSite, 0, PIPES);
            System.arraycopy(other.pipeCell, 0, pipeCell, 0, PIPES);
            System.arraycopy(other.pipeHeave, 0, pipeHeave, 0, PIPES);
            System.arraycopy(other.pipeGreatest, 0, pipeGreatest, 0, PIPES);
            System.arraycopy(other.pipeTimes, 0, pipeTimes, 0, PIPES);
        }

        boolean hasSite(int s) {
            return s >= 0 && s < siteCount;
        }

        boolean hasPipe(int p) {
            return p >= 0 && p < pipeCount;
        }

        int frozenCells() {
            int frozen = 0;
            for (int s = 0; s < siteCount; s++) {
                frozen += sites[s].frozenWithin(CELLS);
            }
            return frozen;
        }

        int layersOfAll() {
            int layers = 0;
            for (int s = 0; s < siteCount; s++) {
                layers += sites[s].layersWithin(CELLS);
            }
            return layers;
        }

        int heavesOfAll() {
            int heaves = 0;
            for (int p = 0; p < pipeCount; p++) {
                heaves += pipeHeave[p];
            }
            return heaves;
        }

        int greatestSumNow() {
            int greatest = 0;
            for (int s = 0; s < siteCount; s++) {
                greatest = Math.max(greatest, sites[s].coldSum);
            }
            return greatest;
        }

        /** A key orders the frozen cells by day, then site, then cell; no cell comes before the key NONE. */
        int nextAgeKey(int key) {
            int next = NO_KEY;
            for (int s = 0; s < siteCount; s++) {
                for (int c = 0; c < CELLS; c++) {
                    int here = KEY_DAY * sites[s].frozenSince[c] + 100 * s + c;
                    if (sites[s].isFrozen(c) && here > key && here < next) {
                        next = here;
                    }
                }
            }
            return next;
        }

        int numberOf(int what) {
            switch (what) {
                case 0:
                    return siteCount;
                case 1:
                    return tubeCount;
                case 2:
                    return pipeCount;
                case 3:
                    return dayCount;
                case 4:
                    return frozenCells();
                case 5:
                    return layersOfAll();
                case 6:
                    return winterCount;
                case 7:
                    return greatestColdSum;
                case 8:
                    return heavesOfAll();
                case 9:
                    return settings[THAW_FROM_BELOW];
                case 10:
                    return settings[MELT_RATE];
                default:
                    return settings[HEAVE_STEP];
            }
        }

        int numberOfTube(int t, int what) {
            int length = tubeLength[t];
            Site place = sites[tubeSite[t]];
            switch (what) {
                case 0:
                    return tubeSite[t];
                case 1:
                    return length;
                case 2:
                    return place.frozenWithin(length);
                case 3:
                    return place.layersWithin(length);
                case 4:
                    return place.lowestWithin(length);
                default:
                    return place.lowestWithin(CELLS) >= length ? 1 : 0;
            }
        }

        int numberOfPipe(int p, int what) {
            switch (what) {
                case 0:
                    return pipeSite[p];
                case 1:
                    return pipeCell[p];
                case 2:
                    return pipeHeave[p];
                case 3:
                    return pipeGreatest[p];
                default:
                    return pipeTimes[p];
            }
        }

        int faultOf(int action, int a, int b, int c) {
            switch (action) {
                case ADD_SITE:
                    return siteCount < SITES ? FINE : NOT_NOW;
                case ADD_TUBE:
                    return faultOfTube(a, b);
                case ADD_PIPE:
                    return faultOfPipe(a, b);
                case BUILD_FENCE:
                    return faultOfFence(a, b);
                case CLEAR_SNOW:
                    return hasSite(a) ? FINE : NO_SUCH;
                case PASS_DAYS:
                    return faultOfDays(a, b, c);
                case CHANGE_SETTING:
                    return faultOfSetting(a, b);
                case BEGIN_WINTER:
                    return FINE;
                default:
                    return OUT_OF_RANGE;
            }
        }

        private int faultOfTube(int s, int length) {
            if (!hasSite(s)) {
                return NO_SUCH;
            }
            if (length < 1 || length > CELLS) {
                return OUT_OF_RANGE;
            }
            return tubeCount < TUBES ? FINE : NOT_NOW;
        }

        private int faultOfPipe(int s, int c) {
            if (!hasSite(s) || c < 0 || c >= CELLS) {
                return NO_SUCH;
            }
            return pipeCount < PIPES && !sites[s].isFrozen(c) ? FINE : NOT_NOW;
        }

        private int faultOfFence(int s, int height) {
            if (!hasSite(s)) {
                return NO_SUCH;
            }
            return height >= 0 && height <= HIGHEST_FENCE ? FINE : OUT_OF_RANGE;
        }

        private int faultOfDays(int t, int snow, int n) {
            if (t < -MOST_DEGREES || t > MOST_DEGREES || snow < 0 || snow > MOST_NEW_SNOW
                    || n < 1 || n > MOST_DAYS) {
                return OUT_OF_RANGE;
            }
            return dayCount + n <= LAST_DAY ? FINE : NOT_NOW;
        }

        private int faultOfSetting(int what, int v) {
            if (what < 0 || what >= SETTINGS) {
                return OUT_OF_RANGE;
            }
            return v >= LEAST_SETTING[what] && v <= MOST_SETTING[what] ? FINE : OUT_OF_RANGE;
        }

        /** Does the action and returns its answer; does nothing and returns NONE if it is forbidden. */
        int perform(int action, int a, int b, int c) {
            if (faultOf(action, a, b, c) != FINE) {
                return NONE;
            }
            switch (action) {
                case ADD_SITE:
                    return siteCount++;
                case ADD_TUBE:
                    return addTube(a, b);
                case ADD_PIPE:
                    return addPipe(a, b);
                case BUILD_FENCE:
                    return buildFence(a, b);
                case CLEAR_SNOW:
                    return clearSnow(a);
                case PASS_DAYS:
                    return passDays(a, b, c);
                case CHANGE_SETTING:
                    return changeSetting(a, b);
                case BEGIN_WINTER:
                    return beginWinter();
                default:
                    return NONE;
            }
        }

        private int addTube(int s, int length) {
            tubeSite[tubeCount] = s;
            tubeLength[tubeCount] = length;
            return tubeCount++;
        }

        private int addPipe(int s, int c) {
            pipeSite[pipeCount] = s;
            pipeCell[pipeCount] = c;
            return pipeCount++;
        }

        private int buildFence(int s, int height) {
            int previous = sites[s].fenceHeight;
            sites[s].fenceHeight = height;
            return previous;
        }

        private int clearSnow(int s) {
            int previous = sites[s].snow;
            sites[s].snow = 0;
            return previous;
        }

        private int changeSetting(int what, int v) {
            int previous = settings[what];
            settings[what] = v;
            return previous;
        }

        private int beginWinter() {
            int greatest = greatestSumNow();
            greatestColdSum = Math.max(greatestColdSum, greatest);
            winterCount++;
            for (int s = 0; s < siteCount; s++) {
                sites[s].coldSum = 0;
            }
            return greatest;
        }

        private int passDays(int t, int snow, int n) {
            for (int i = 0; i < n; i++) {
                dayCount++;
                for (int s = 0; s < siteCount; s++) {
                    passDay(s, t, snow);
                }
            }
            return frozenCells();
        }

        /** Sites don't touch each other, so what would be at one of them needs no days at the others. */
        void passDaysAt(int s, int t, int snow, int n) {
            for (int i = 0; i < n; i++) {
                dayCount++;
                passDay(s, t, snow);
            }
        }

        /** Where the cold is too little for a frozen cell, it is too little for any below it, so the search ends. */
        private void passDay(int s, int t, int snow) {
            Site place = sites[s];
            place.takeSnow(snow);
            place.takeTemperature(t, settings[MELT_RATE]);
            for (int c = 0; c < CELLS && place.cold >= 4 + c; c++) {
                if (!place.isFrozen(c)) {
                    place.cold -= 4 + c;
                    freeze(s, c);
                }
            }
            for (int c = 0; c < CELLS && place.warmth >= 3 + c; c++) {
                if (place.isFrozen(c)) {
                    place.warmth -= 3 + c;
                    thaw(s, c);
                }
            }
            int every = settings[THAW_FROM_BELOW];
            int lowest = place.lowestWithin(CELLS);
            if (every > 0 && dayCount % every == 0 && lowest != NONE) {
                thaw(s, lowest);
            }
        }

        private void freeze(int s, int c) {
            sites[s].frozenSince[c] = dayCount;
            for (int p = 0; p < pipeCount; p++) {
                if (pipeSite[p] == s && pipeCell[p] == c) {
                    pipeHeave[p] += settings[HEAVE_STEP];
                    pipeGreatest[p] = Math.max(pipeGreatest[p], pipeHeave[p]);
                    pipeTimes[p]++;
                }
            }
        }

        private void thaw(int s, int c) {
            sites[s].frozenSince[c] = NONE;
            for (int p = 0; p < pipeCount; p++) {
                if (pipeSite[p] == s && pipeCell[p] == c) {
                    pipeHeave[p] -= pipeHeave[p] / 2;
                }
            }
        }
    }

    /** The states that undo can bring back: a ring, made once, in which the oldest is written over. */
    private static final class Past {
        int count;
        int first;
        final Ground[] states = new Ground[REMEMBERED];

        Past() {
            for (int i = 0; i < REMEMBERED; i++) {
                states[i] = new Ground();
            }
        }

        void remember(Ground ground) {
            states[(first + count) % REMEMBERED].copyFrom(ground);
            if (count < REMEMBERED) {
                count++;
            } else {
                first = (first + 1) % REMEMBERED;
            }
        }

        void takeBack(Ground ground) {
            if (count > 0) {
                count--;
                ground.copyFrom(states[(first + count) % REMEMBERED]);
            }
        }

        void forgetAll() {
            count = 0;
            first = 0;
        }
    }

    /** The text buffer, and the reading of it command by command. */
    private static final class Text {
        final int[] signs = new int[TEXT_ROOM];
        int length;
        int at;
        int error;
        int action;
        int first;
        int second;
        int third;

        void put(int sign) {
            if (length < TEXT_ROOM) {
                signs[length] = sign;
                length++;
            }
        }

        int findError() {
            startReading();
            for (int i = 0; i < TEXT_ROOM && hasCommand(); i++) {
                readCommand();
            }
            return error;
        }

        void startReading() {
            at = 0;
            error = NONE;
            if (nextSign() == 'D') {
                at = 1;
            } else {
                error = 0;
            }
        }

        boolean hasCommand() {
            return error == NONE && at < length;
        }

        void readCommand() {
            action = nextSign();
            first = 0;
            second = 0;
            third = 0;
            at++;
            switch (action) {
                case ADD_SITE:
                case BEGIN_WINTER:
                    break;
                case ADD_TUBE:
                    first = readDigit(0, SITES - 1);
                    second = readNumber(1, CELLS);
                    break;
                case ADD_PIPE:
                    first = readDigit(0, SITES - 1);
                    second = readNumber(0, CELLS - 1);
                    break;
                case BUILD_FENCE:
                    first = readDigit(0, SITES - 1);
                    second = readNumber(0, HIGHEST_FENCE);
                    break;
                case CLEAR_SNOW:
                    first = readDigit(0, SITES - 1);
                    break;
                case PASS_DAYS:
                    first = readTemperature();
                    second = readNumber(0, MOST_NEW_SNOW);
                    third = readNumber(1, MOST_DAYS);
                    break;
                case CHANGE_SETTING:
                    first = readDigit(0, SETTINGS - 1);
                    second = readNumber(0, MOST_VALUE);
                    break;
                default:
                    error = at - 1;
                    break;
            }
        }

        private int nextSign() {
            return at >= 0 && at < length && at < TEXT_ROOM ? signs[at] : NONE;
        }

        private int readTemperature() {
            int sign = nextSign();
            if (sign != '+' && sign != '-') {
                error = at;
                return 0;
            }
            at++;
            int degrees = readNumber(0, MOST_DEGREES);
            return sign == '-' ? -degrees : degrees;
        }

        private int readNumber(int least, int most) {
            int tens = readDigit(least / 10, most / 10);
            int ones = readDigit(Math.max(0, least - 10 * tens), Math.min(9, most - 10 * tens));
            return 10 * tens + ones;
        }

        /** Behind the first error nothing is read any more, so that its place is kept. */
        private int readDigit(int least, int most) {
            if (error != NONE) {
                return 0;
            }
            int sign = nextSign();
            if (sign < '0' + least || sign > '0' + most) {
                error = at;
                return 0;
            }
            at++;
            return sign - '0';
        }
    }
}
