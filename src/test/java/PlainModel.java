import java.util.ArrayList;
import java.util.Collections;
import java.util.Comparator;
import java.util.List;
import java.util.TreeMap;
import java.util.regex.Matcher;
import java.util.regex.Pattern;

/** The document once more, told with lists and maps as literally as it goes, to compare the class with. */
final class PlainModel {
    static final class Place {
        int snow;
        int fence;
        int cold;
        int warmth;
        int sum;
        /** Of each frozen cell {cell, day}, in the order in which they froze. */
        List<int[]> frozen = new ArrayList<>();

        boolean has(int c) {
            return frozen.stream().anyMatch(f -> f[0] == c);
        }

        TreeMap<Integer, Integer> cells() {
            TreeMap<Integer, Integer> days = new TreeMap<>();
            for (int[] f : frozen) {
                days.put(f[0], f[1]);
            }
            return days;
        }

        /** Of each layer {its first cell, its last cell}. */
        List<int[]> layerList() {
            List<int[]> list = new ArrayList<>();
            for (int c : cells().keySet()) {
                if (!list.isEmpty() && list.get(list.size() - 1)[1] == c - 1) {
                    list.get(list.size() - 1)[1] = c;
                } else {
                    list.add(new int[] {c, c});
                }
            }
            return list;
        }
    }

    static final class World {
        int days;
        int winters;
        int greatest;
        int[] settings = {5, 2, 10};
        List<Place> sites = new ArrayList<>();
        List<int[]> tubes = new ArrayList<>();
        /** Of each pipe {site, cell, heave, greatest, times}. */
        List<int[]> pipes = new ArrayList<>();

        World copy() {
            World w = new World();
            w.days = days;
            w.winters = winters;
            w.greatest = greatest;
            w.settings = settings.clone();
            for (Place p : sites) {
                Place q = new Place();
                q.snow = p.snow;
                q.fence = p.fence;
                q.cold = p.cold;
                q.warmth = p.warmth;
                q.sum = p.sum;
                for (int[] f : p.frozen) {
                    q.frozen.add(f.clone());
                }
                w.sites.add(q);
            }
            tubes.forEach(t -> w.tubes.add(t.clone()));
            pipes.forEach(p -> w.pipes.add(p.clone()));
            return w;
        }

        void day(int t, int s) {
            days++;
            for (int number = 0; number < sites.size(); number++) {
                Place p = sites.get(number);
                p.snow = Math.min(99, p.snow + s + Math.min(s, p.fence));
                if (t > 0) {
                    int m = p.snow < t * settings[1] ? p.snow : t * settings[1];
                    p.snow -= m;
                    p.warmth += p.snow > 0 ? 0 : t - m / settings[1];
                    p.cold = 0;
                }
                if (t < 0) {
                    int c = 10 * -t / (10 + p.snow);
                    p.cold += c;
                    p.sum += c;
                    p.warmth = 0;
                }
                while (firstBare(p) < 30 && p.cold >= 4 + firstBare(p)) {
                    int c = firstBare(p);
                    p.frozen.add(new int[] {c, days});
                    p.cold -= 4 + c;
                    for (int[] pipe : pipes) {
                        if (pipe[0] == number && pipe[1] == c) {
                            pipe[2] += settings[2];
                            pipe[3] = Math.max(pipe[3], pipe[2]);
                            pipe[4]++;
                        }
                    }
                }
                while (!p.frozen.isEmpty() && p.warmth >= 3 + p.cells().firstKey()) {
                    int c = p.cells().firstKey();
                    p.warmth -= 3 + c;
                    thaw(number, c);
                }
                if (settings[0] > 0 && days % settings[0] == 0 && !p.frozen.isEmpty()) {
                    thaw(number, p.cells().lastKey());
                }
            }
        }

        int firstBare(Place p) {
            int c = 0;
            while (c < 30 && p.has(c)) {
                c++;
            }
            return c;
        }

        void thaw(int number, int c) {
            sites.get(number).frozen.removeIf(f -> f[0] == c);
            for (int[] pipe : pipes) {
                if (pipe[0] == number && pipe[1] == c) {
                    pipe[2] -= pipe[2] / 2;
                }
            }
        }

        int frozen() {
            return sites.stream().mapToInt(p -> p.frozen.size()).sum();
        }

        int layerCount() {
            return sites.stream().mapToInt(p -> p.layerList().size()).sum();
        }
    }

    private static final Pattern WINTER = Pattern.compile("D(?:[sw]|t[0-3](?:0[1-9]|[12][0-9]|30)|p[0-3][0-2][0-9]"
            + "|f[0-3](?:[01][0-9]|20)|x[0-3]|d[+-](?:[0-2][0-9]|30)(?:[0-2][0-9]|30)(?:0[1-9]|[1-5][0-9]|60)"
            + "|e[0-2](?:[0-4][0-9]|50))*");

    World world = new World();
    private String text = "";
    private final List<World> remembered = new ArrayList<>();
    private final World[] slots = new World[2];

    /** As Looks.threeLayers(). */
    static PlainModel threeLayers() {
        PlainModel model = new PlainModel();
        model.set(0, 0);
        model.site();
        int[] weather = {-30, 18, -15, 7, -4};
        for (int t : weather) {
            model.days(t, 0, 1);
        }
        return model;
    }

    private static void index(boolean fine) {
        if (!fine) {
            throw new IndexOutOfBoundsException();
        }
    }

    private static void argument(boolean fine) {
        if (!fine) {
            throw new IllegalArgumentException();
        }
    }

    private static void state(boolean fine) {
        if (!fine) {
            throw new IllegalStateException();
        }
    }

    private static boolean in(long v, long least, long most) {
        return least <= v && v <= most;
    }

    private Place at(int s) {
        index(in(s, 0, world.sites.size() - 1));
        return world.sites.get(s);
    }

    private void remember() {
        remembered.add(world.copy());
        if (remembered.size() > 14) {
            remembered.remove(0);
        }
    }

    int append(int c) {
        argument(in(c, 0, 255));
        state(text.length() < 120);
        text += (char) c;
        return text.length();
    }

    int clearText() {
        int length = text.length();
        text = "";
        return length;
    }

    int errorPosition() {
        if (WINTER.matcher(text).matches()) {
            return -1;
        }
        for (int i = 0; i < text.length(); i++) {
            Matcher m = WINTER.matcher(text.substring(0, i + 1));
            if (!m.matches() && !m.hitEnd()) {
                return i;
            }
        }
        return text.length();
    }

    int load() {
        state(errorPosition() == -1);
        world = new World();
        int leftOut = 0;
        Matcher m = Pattern.compile("([a-z])([^a-z]*)").matcher(text);
        while (m.find()) {
            try {
                command(m.group(1).charAt(0), m.group(2));
            } catch (RuntimeException e) {
                leftOut++;
            }
        }
        remembered.clear();
        slots[0] = null;
        slots[1] = null;
        return leftOut;
    }

    private void command(char letter, String rest) {
        switch (letter) {
            case 's' -> site();
            case 't' -> tube(part(rest, 0, 1), part(rest, 1, 3));
            case 'p' -> pipe(part(rest, 0, 1), part(rest, 1, 3));
            case 'f' -> fence(part(rest, 0, 1), part(rest, 1, 3));
            case 'x' -> shovel(part(rest, 0, 1));
            case 'd' -> days(part(rest, 0, 3), part(rest, 3, 5), part(rest, 5, 7));
            case 'e' -> set(part(rest, 0, 1), part(rest, 1, 3));
            default -> winter();
        }
    }

    private static int part(String rest, int from, int to) {
        return Integer.parseInt(rest.substring(from, to));
    }

    int about(int what) {
        argument(in(what, 0, 11));
        int[] all = {world.sites.size(), world.tubes.size(), world.pipes.size(), world.days, world.frozen(),
            world.layerCount(), world.winters, world.greatest, world.pipes.stream().mapToInt(p -> p[2]).sum(),
            world.settings[0], world.settings[1], world.settings[2]};
        return all[what];
    }

    int siteOf(int s, int what) {
        Place p = at(s);
        argument(in(what, 0, 8));
        int[] all = {p.snow, p.fence, p.cold, p.warmth, p.sum, p.frozen.size(), p.layerList().size(),
            p.frozen.isEmpty() ? -1 : p.cells().lastKey(), p.has(0) ? 1 : 0};
        return all[what];
    }

    int since(int s, int c) {
        Place p = at(s);
        index(in(c, 0, 29));
        return p.cells().getOrDefault(c, -1);
    }

    int layerOf(int s, int k, int what) {
        List<int[]> list = at(s).layerList();
        index(in(k, 0, list.size() - 1));
        argument(in(what, 0, 3));
        int[] layer = list.get(k);
        int gap = k + 1 < list.size() ? list.get(k + 1)[0] - layer[1] - 1 : 0;
        int oldest = Collections.min(at(s).cells().subMap(layer[0], true, layer[1], true).values());
        int[] all = {layer[0], layer[1] - layer[0] + 1, gap, oldest};
        return all[what];
    }

    int tubeOf(int t, int what) {
        index(in(t, 0, world.tubes.size() - 1));
        argument(in(what, 0, 5));
        int[] tube = world.tubes.get(t);
        Place p = world.sites.get(tube[0]);
        Integer lowest = p.cells().lowerKey(tube[1]);
        int[] all = {tube[0], tube[1], p.cells().headMap(tube[1]).size(),
            (int) p.layerList().stream().filter(l -> l[0] < tube[1]).count(),
            lowest == null ? -1 : lowest, p.cells().tailMap(tube[1]).isEmpty() ? 0 : 1};
        return all[what];
    }

    int pipeOf(int p, int what) {
        index(in(p, 0, world.pipes.size() - 1));
        argument(in(what, 0, 4));
        return world.pipes.get(p)[what];
    }

    int layers(int s, int way) {
        Place p = at(s);
        argument(in(way, 0, 1));
        if (way == 0) {
            return p.layerList().size();
        }
        boolean[] told = new boolean[32];
        int layers = 0;
        for (int[] f : p.frozen) {
            int beside = (told[f[0]] ? 1 : 0) + (told[f[0] + 2] ? 1 : 0);
            layers += 1 - beside;
            told[f[0] + 1] = true;
        }
        return layers;
    }

    int oldest(int rank) {
        List<int[]> all = new ArrayList<>();
        for (int s = 0; s < world.sites.size(); s++) {
            for (int[] f : world.sites.get(s).frozen) {
                all.add(new int[] {f[1], s, f[0]});
            }
        }
        all.sort(Comparator.<int[]>comparingInt(a -> a[0]).thenComparingInt(a -> a[1]).thenComparingInt(a -> a[2]));
        index(in(rank, 0, all.size() - 1));
        return 100 * all.get(rank)[1] + all.get(rank)[2];
    }

    int site() {
        state(world.sites.size() < 4);
        remember();
        world.sites.add(new Place());
        return world.sites.size() - 1;
    }

    int tube(int s, int length) {
        at(s);
        argument(in(length, 1, 30));
        state(world.tubes.size() < 8);
        remember();
        world.tubes.add(new int[] {s, length});
        return world.tubes.size() - 1;
    }

    int pipe(int s, int c) {
        Place p = at(s);
        index(in(c, 0, 29));
        state(!p.has(c) && world.pipes.size() < 8);
        remember();
        world.pipes.add(new int[] {s, c, 0, 0, 0});
        return world.pipes.size() - 1;
    }

    int fence(int s, int height) {
        int had = at(s).fence;
        argument(in(height, 0, 20));
        remember();
        at(s).fence = height;
        return had;
    }

    int shovel(int s) {
        int had = at(s).snow;
        remember();
        at(s).snow = 0;
        return had;
    }

    int days(int t, int snow, int n) {
        argument(in(t, -30, 30) && in(snow, 0, 30) && in(n, 1, 60));
        state(world.days + n <= 9999);
        remember();
        for (int i = 0; i < n; i++) {
            world.day(t, snow);
        }
        return world.frozen();
    }

    int winter() {
        remember();
        int greatest = world.sites.stream().mapToInt(p -> p.sum).max().orElse(0);
        world.sites.forEach(p -> p.sum = 0);
        world.winters++;
        world.greatest = Math.max(world.greatest, greatest);
        return greatest;
    }

    int set(int what, int v) {
        argument(what == 0 && in(v, 0, 30) || what == 1 && in(v, 1, 9) || what == 2 && in(v, 0, 50));
        remember();
        int had = world.settings[what];
        world.settings[what] = v;
        return had;
    }

    int undo() {
        state(!remembered.isEmpty());
        world = remembered.remove(remembered.size() - 1);
        return remembered.size();
    }

    int goneIn(int s, int t) {
        at(s);
        argument(in(t, 1, 30));
        World w = world.copy();
        for (int d = 0; d <= 400; d++) {
            if (w.sites.get(s).frozen.isEmpty()) {
                return d;
            }
            w.day(t, 0);
        }
        return -1;
    }

    int reachedIn(int s, int c, int t) {
        at(s);
        index(in(c, 0, 29));
        argument(in(t, -30, -1));
        World w = world.copy();
        for (int d = 0; d <= 400; d++) {
            if (w.sites.get(s).has(c)) {
                return d;
            }
            w.day(t, 0);
        }
        return -1;
    }

    int bestFence(int s, int t, int snow, int n) {
        at(s);
        argument(in(t, -30, 30) && in(snow, 0, 30) && in(n, 1, 60));
        List<Integer> frozen = new ArrayList<>();
        for (int height = 0; height <= 20; height++) {
            World w = world.copy();
            w.sites.get(s).fence = height;
            for (int i = 0; i < n; i++) {
                w.day(t, snow);
            }
            frozen.add(w.sites.get(s).frozen.size());
        }
        return frozen.indexOf(Collections.min(frozen));
    }

    int heaveIn(int p, int t, int n) {
        index(in(p, 0, world.pipes.size() - 1));
        argument(in(t, -30, 30) && in(n, 1, 60));
        World w = world.copy();
        for (int i = 0; i < n; i++) {
            w.day(t, 0);
        }
        return w.pipes.get(p)[2];
    }

    int deepest() {
        List<Integer> frosty = new ArrayList<>();
        for (int s = 0; s < world.sites.size(); s++) {
            if (!world.sites.get(s).frozen.isEmpty()) {
                frosty.add(s);
            }
        }
        frosty.sort(Comparator.<Integer>comparingInt(s -> -world.sites.get(s).cells().lastKey())
                .thenComparingInt(s -> -world.sites.get(s).frozen.size()).thenComparingInt(s -> s));
        return frosty.isEmpty() ? -1 : frosty.get(0);
    }

    private PlainModel twin() {
        PlainModel twin = new PlainModel();
        twin.world = world.copy();
        return twin;
    }

    int runScript(int n, long script) {
        argument(in(n, 1, 3));
        argument(script >= 0 && Long.toString(script).length() <= 6 * n);
        String digits = "0".repeat(6 * n - Long.toString(script).length()) + script;
        PlainModel twin = twin();
        for (int i = 0; i < n; i++) {
            try {
                argument(twin.group(digits.substring(6 * i, 6 * i + 6)));
            } catch (RuntimeException e) {
                return i;
            }
        }
        return -1;
    }

    private boolean group(String g) {
        int one = part(g, 1, 2);
        if (g.matches("1.....")) {
            days(-part(g, 1, 3), part(g, 3, 5), part(g, 5, 6));
        } else if (g.matches("2..00.")) {
            days(part(g, 1, 3), 0, part(g, 5, 6));
        } else if (g.matches("3.0..0")) {
            fence(one, part(g, 3, 5));
        } else if (g.matches("4.0000")) {
            shovel(one);
        } else if (g.matches("5.0..0")) {
            set(one, part(g, 3, 5));
        } else if (g.matches("6.0..[01]")) {
            return since(one, part(g, 3, 5)) >= 0 == g.endsWith("1");
        } else if (g.matches("7.00..")) {
            return siteOf(one, 5) >= part(g, 4, 6);
        } else if (g.matches("8.000.")) {
            return siteOf(one, 6) == part(g, 5, 6);
        } else if (g.matches("9.0...")) {
            return pipeOf(one, 2) >= part(g, 3, 6);
        } else {
            return false;
        }
        return true;
    }

    int simulate(long seed, int m) {
        argument(in(m, 1, 60));
        PlainModel twin = twin();
        long x = seed;
        for (int i = 0; i < m; i++) {
            x = x * 6364136223846793005L + 1442695040888963407L;
            int r = (int) (x >>> 33);
            try {
                twin.turn(r % 16, r / 16);
            } catch (RuntimeException e) {
                continue;
            }
        }
        return 10000 * twin.world.layerCount() + 10 * twin.world.frozen() + twin.world.sites.size();
    }

    private void turn(int kind, int q) {
        switch (kind) {
            case 0 -> site();
            case 1 -> tube(q % 4, 1 + q / 4 % 30);
            case 2 -> pipe(q % 4, q / 4 % 30);
            case 3 -> fence(q % 4, q / 4 % 21);
            case 4 -> shovel(q % 4);
            case 5 -> set(q % 3, q / 4 % 31);
            case 6 -> winter();
            case 7, 8, 9, 10, 11 -> days(-(q % 31), q / 32 % 4, 1 + q / 128 % 6);
            default -> days(q % 16, 0, 1 + q / 16 % 4);
        }
    }

    int save(int slot) {
        index(in(slot, 0, 1));
        slots[slot] = world.copy();
        return world.days;
    }

    int restore(int slot) {
        index(in(slot, 0, 1));
        state(slots[slot] != null);
        world = slots[slot].copy();
        remembered.clear();
        return world.days;
    }
}
