import java.util.Random;

/** Random runs of calls, at the class and at the plain model: every promise, with good and bad arguments. */
public final class ModelTest {
    private static final int RUNS = 1200;
    private static final int CALLS = 250;
    private static final int TEXTS = 3000;
    private static final int KINDS = 30;
    private static final String LETTERS = "sstpfxddddew";

    private final Random random;
    private final FrostTubes x = new FrostTubes();
    private final PlainModel model = new PlainModel();

    private ModelTest(long seed) {
        random = new Random(seed);
    }

    public static void main(String[] args) {
        for (int run = 0; run < RUNS; run++) {
            new ModelTest(run).compare(run);
        }
        for (int text = 0; text < TEXTS; text++) {
            new ModelTest(text).compareText(text);
        }
        Checks.finish("ModelTest");
    }

    private void compare(int run) {
        boolean textual = run % 3 == 0;
        for (int call = 0; call < CALLS; call++) {
            int[] made = draw(textual);
            String due = outcome(() -> ask(null, made));
            String got = outcome(() -> ask(x, made));
            Checks.same("run " + run + ", call " + call + " " + java.util.Arrays.toString(made), due, got);
            if (!due.equals(got)) {
                return;
            }
        }
        Checks.same("run " + run + ": the same state", stateOf(null), stateOf(x));
    }

    /** A long text, every third one with a wrong sign or a short end. */
    private void compareText(int number) {
        StringBuilder text = new StringBuilder("D");
        while (text.length() < 112) {
            text.append(command());
        }
        if (number % 3 == 0) {
            text.setCharAt(random.nextInt(text.length()), (char) anySign());
        }
        if (number % 6 == 3) {
            text.setLength(1 + random.nextInt(text.length()));
        }
        for (int i = 0; i < text.length(); i++) {
            x.append(text.charAt(i));
            model.append(text.charAt(i));
        }
        Checks.is("error in " + text, model.errorPosition(), x.errorPosition());
        Checks.same("load of " + text, outcome(() -> model.load()), outcome(() -> x.load()));
        Checks.same("state behind " + text, stateOf(null), stateOf(x));
    }

    private String command() {
        int s = random.nextInt(random.nextInt(4) + 1);
        switch (LETTERS.charAt(random.nextInt(LETTERS.length()))) {
            case 's': return "s";
            case 't': return "t" + s + two(1, 30);
            case 'p': return "p" + s + two(0, random.nextBoolean() ? 29 : 9);
            case 'f': return "f" + s + two(0, 20);
            case 'x': return "x" + s;
            case 'd': return "d" + (random.nextInt(3) > 0 ? "-" + two(0, 30) : "+" + two(0, 9))
                    + (random.nextInt(3) > 0 ? "00" : two(0, 30)) + two(1, random.nextInt(9) == 0 ? 60 : 3);
            case 'e': return "e" + random.nextInt(3) + two(0, random.nextBoolean() ? 50 : 9);
            default: return "w";
        }
    }

    private String two(int least, int most) {
        int v = least + random.nextInt(most - least + 1);
        return "" + v / 10 + v % 10;
    }

    /** All that the reading calls tell of what there is in the model. */
    private String stateOf(FrostTubes y) {
        StringBuilder told = new StringBuilder();
        for (int what = 0; what < 12; what++) {
            tell(told, y, 4, what, 0);
        }
        for (int s = 0; s < model.world.sites.size(); s++) {
            for (int what = 0; what < 9; what++) {
                tell(told, y, 5, s, what);
            }
            for (int c = 0; c < 30; c++) {
                tell(told, y, 6, s, c);
            }
        }
        for (int t = 0; t < model.world.tubes.size(); t++) {
            for (int what = 0; what < 6; what++) {
                tell(told, y, 8, t, what);
            }
        }
        for (int p = 0; p < model.world.pipes.size(); p++) {
            for (int what = 0; what < 5; what++) {
                tell(told, y, 9, p, what);
            }
        }
        return told.toString();
    }

    private void tell(StringBuilder told, FrostTubes y, int kind, int a, int b) {
        told.append(outcome(() -> ask(y, call(kind, a, b, 0, 0)))).append(' ');
    }

    private static String outcome(Checks.Call call) {
        try {
            return Integer.toString(call.answer());
        } catch (RuntimeException e) {
            return e.getClass().getName();
        }
    }

    /** Mostly within the range, at its ends rather often, and sometimes beyond it. */
    private int draw(int least, int most) {
        int way = random.nextInt(60);
        if (way == 0) {
            return random.nextInt();
        }
        if (way < 3) {
            return least - 1;
        }
        if (way < 5) {
            return most + 1;
        }
        if (way < 8) {
            return random.nextBoolean() ? least : most;
        }
        return least + random.nextInt(most - least + 1);
    }

    private int site() {
        return draw(0, Math.max(0, model.world.sites.size() - 1));
    }

    private int temperature() {
        int way = random.nextInt(4);
        return way == 0 ? draw(-30, 30) : way < 3 ? draw(-12, -1) : draw(1, 9);
    }

    private int snow() {
        return random.nextInt(3) > 0 ? 0 : draw(0, 30);
    }

    private int number() {
        return random.nextInt(8) == 0 ? draw(1, 60) : draw(1, 3);
    }

    /** The kind of the call, and its arguments. */
    private int[] draw(boolean textual) {
        int kind = random.nextInt(KINDS);
        int way = random.nextInt(10);
        if (way < 3) {
            kind = 16;
        } else if (textual && way < 9) {
            kind = random.nextInt(40) == 0 ? random.nextInt(4) : 0;
        } else if (!textual && kind < 4 && random.nextInt(4) > 0) {
            kind = 6 + random.nextInt(4);
        }
        if ((kind == 27 || kind == 29 || kind == 19) && random.nextInt(3) > 0) {
            kind = 12;
        }
        switch (kind) {
            case 0: return call(kind, sign(), 0, 0, 0);
            case 4: return call(kind, draw(0, 11), 0, 0, 0);
            case 5: return call(kind, site(), draw(0, 8), 0, 0);
            case 6: return call(kind, site(), draw(0, 29), 0, 0);
            case 7: return call(kind, site(), draw(0, 2), draw(0, 3), 0);
            case 8: return call(kind, draw(0, Math.max(0, model.world.tubes.size() - 1)), draw(0, 5), 0, 0);
            case 9: return call(kind, draw(0, Math.max(0, model.world.pipes.size() - 1)), draw(0, 4), 0, 0);
            case 10: return call(kind, site(), draw(0, 1), 0, 0);
            case 11: return call(kind, draw(0, Math.max(0, model.world.frozen() - 1)), 0, 0, 0);
            case 13: return call(kind, site(), draw(1, 30), 0, 0);
            case 14: return call(kind, site(), random.nextBoolean() ? draw(0, 29) : draw(0, 6), 0, 0);
            case 15: return call(kind, site(), draw(0, 20), 0, 0);
            case 16: return call(kind, temperature(), snow(), number(), 0);
            case 18: return setting(kind);
            case 20: return call(kind, site(), draw(1, 30), 0, 0);
            case 21: return call(kind, site(), draw(0, 29), draw(-30, -1), 0);
            case 22: return call(kind, site(), temperature(), draw(0, 30), number());
            case 23: return call(kind, draw(0, Math.max(0, model.world.pipes.size() - 1)), temperature(), number(), 0);
            case 25: return call(kind, draw(1, 3), random.nextInt(), 0, 0);
            case 26: return call(kind, random.nextInt(), random.nextInt(), draw(1, 60), 0);
            case 27: case 28: return call(kind, draw(0, 1), 0, 0, 0);
            case 29: return call(17, 0, 0, 0, 0);
            default: return call(kind, site(), 0, 0, 0);
        }
    }

    private int[] setting(int kind) {
        int what = draw(0, 2);
        int v = what == 0 ? draw(0, 30) : what == 1 ? draw(1, 9) : draw(0, 50);
        return call(kind, what, v, 0, 0);
    }

    private static int[] call(int kind, int a, int b, int c, int d) {
        return new int[] {kind, a, b, c, d};
    }

    /** Goes on with the text so that it is often a winter, without knowing where in it the next sign stands. */
    private int sign() {
        PlainModel probe = new PlainModel();
        String text = typed.toString();
        for (int tries = 0; tries < 40 && random.nextInt(80) > 0; tries++) {
            int sign = text.isEmpty() ? 'D' : anySign();
            probe.clearText();
            for (int i = 0; i < text.length(); i++) {
                probe.append(text.charAt(i));
            }
            int before = probe.errorPosition();
            if (text.length() < 120 && (before == -1 || before == text.length())) {
                probe.append(sign);
                int behind = probe.errorPosition();
                if (behind == -1 || behind > text.length()) {
                    return sign;
                }
            }
        }
        return draw(0, 255);
    }

    private int anySign() {
        int way = random.nextInt(3);
        return way == 0 ? LETTERS.charAt(random.nextInt(LETTERS.length())) : way == 1 ? '0' + random.nextInt(10)
                : random.nextInt(5) == 0 ? '+' : random.nextInt(4) == 0 ? '-' : '0' + random.nextInt(4);
    }

    private final StringBuilder typed = new StringBuilder();

    /** A script whose groups are often ones that can succeed. */
    private static long script(int n, int chance) {
        Random r = new Random(chance);
        if (r.nextInt(40) == 0) {
            return r.nextLong();
        }
        long script = 0;
        for (int i = 0; i < Math.max(1, Math.min(n, 3)); i++) {
            script = script * 1000000 + group(r);
        }
        return script;
    }

    private static int group(Random r) {
        if (r.nextInt(8) == 0) {
            return r.nextInt(1000000);
        }
        int kind = 1 + r.nextInt(9);
        int d2 = r.nextInt(3);
        switch (kind) {
            case 1: return 100000 + 1000 * r.nextInt(33) + 10 * r.nextInt(33) + r.nextInt(10);
            case 2: return 200000 + 1000 * r.nextInt(33) + r.nextInt(10);
            case 3: return 300000 + 10000 * d2 + 10 * r.nextInt(23);
            case 4: return 400000 + 10000 * d2;
            case 5: return 500000 + 10000 * d2 + 10 * r.nextInt(12);
            case 6: return 600000 + 10000 * d2 + 10 * r.nextInt(32) + r.nextInt(2);
            case 7: return 700000 + 10000 * d2 + r.nextInt(20);
            case 8: return 800000 + 10000 * d2 + r.nextInt(4);
            default: return 900000 + 10000 * d2 + r.nextInt(60);
        }
    }

    /** Asks the class, or the model if there is no object given. */
    private int ask(FrostTubes y, int[] c) {
        PlainModel m = model;
        boolean plain = y == null;
        switch (c[0]) {
            case 0:
                return plain ? m.append(c[1]) : noted(y.append(c[1]), c[1]);
            case 1:
                if (!plain) {
                    typed.setLength(0);
                }
                return plain ? m.clearText() : y.clearText();
            case 2: return plain ? m.errorPosition() : y.errorPosition();
            case 3: return plain ? m.load() : y.load();
            case 4: return plain ? m.about(c[1]) : y.about(c[1]);
            case 5: return plain ? m.siteOf(c[1], c[2]) : y.siteOf(c[1], c[2]);
            case 6: return plain ? m.since(c[1], c[2]) : y.since(c[1], c[2]);
            case 7: return plain ? m.layerOf(c[1], c[2], c[3]) : y.layerOf(c[1], c[2], c[3]);
            case 8: return plain ? m.tubeOf(c[1], c[2]) : y.tubeOf(c[1], c[2]);
            case 9: return plain ? m.pipeOf(c[1], c[2]) : y.pipeOf(c[1], c[2]);
            case 10: return plain ? m.layers(c[1], c[2]) : y.layers(c[1], c[2]);
            case 11: return plain ? m.oldest(c[1]) : y.oldest(c[1]);
            case 12: return plain ? m.site() : y.site();
            case 13: return plain ? m.tube(c[1], c[2]) : y.tube(c[1], c[2]);
            case 14: return plain ? m.pipe(c[1], c[2]) : y.pipe(c[1], c[2]);
            case 15: return plain ? m.fence(c[1], c[2]) : y.fence(c[1], c[2]);
            case 16: return plain ? m.days(c[1], c[2], c[3]) : y.days(c[1], c[2], c[3]);
            case 17: return plain ? m.winter() : y.winter();
            case 18: return plain ? m.set(c[1], c[2]) : y.set(c[1], c[2]);
            case 19: return plain ? m.undo() : y.undo();
            case 20: return plain ? m.goneIn(c[1], c[2]) : y.goneIn(c[1], c[2]);
            case 21: return plain ? m.reachedIn(c[1], c[2], c[3]) : y.reachedIn(c[1], c[2], c[3]);
            case 22: return plain ? m.bestFence(c[1], c[2], c[3], c[4]) : y.bestFence(c[1], c[2], c[3], c[4]);
            case 23: return plain ? m.heaveIn(c[1], c[2], c[3]) : y.heaveIn(c[1], c[2], c[3]);
            case 24: return plain ? m.deepest() : y.deepest();
            case 25:
                return plain ? m.runScript(c[1], script(c[1], c[2])) : y.runScript(c[1], script(c[1], c[2]));
            case 26: return plain ? m.simulate(seed(c), c[3]) : y.simulate(seed(c), c[3]);
            case 27: return plain ? m.save(c[1]) : y.save(c[1]);
            case 28: return plain ? m.restore(c[1]) : y.restore(c[1]);
            default: return 0;
        }
    }

    private static long seed(int[] c) {
        return (long) c[1] << 32 ^ c[2];
    }

    private int noted(int answer, int sign) {
        typed.append((char) sign);
        return answer;
    }
}
