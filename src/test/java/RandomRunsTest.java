import java.util.Random;

/** Long random runs of calls, each answer compared with that of the Reference. */
public final class RandomRunsTest {
    private static final int RUNS = 1500;
    private static final Due due = new Due();

    private final Random random;
    private final int run;
    private SideStep x = new SideStep();
    private final Reference y = new Reference();
    private int calls;

    private RandomRunsTest(int run) {
        this.run = run;
        this.random = new Random(run);
    }

    public static void main(String[] args) {
        for (int run = 0; run < RUNS; run++) {
            new RandomRunsTest(run).go();
        }
        due.end();
    }

    private void same(String call, long got, long want) {
        calls++;
        due.is("run " + run + ", call " + calls + ": " + call, got, want);
    }

    private void go() {
        write(random.nextInt(4) == 0 ? brokenText() : "C" + program());
        while (calls < 440) {
            if (random.nextInt(60) == 0) {
                write(random.nextInt(3) == 0 ? brokenText() : "C" + program());
            }
            call();
        }
    }

    private void write(String text) {
        same("wipe", x.wipe(), y.wipe());
        for (int i = 0; i < text.length(); i++) {
            same("write", x.write(text.charAt(i)), y.write(text.charAt(i)));
            if (random.nextInt(6) == 0) {
                same("fault", x.fault(), y.fault());
            }
        }
        same("fault", x.fault(), y.fault());
        same("code", x.code(), y.code());
    }

    private String brokenText() {
        StringBuilder text = new StringBuilder("C" + program());
        int changes = 1 + random.nextInt(2);
        for (int i = 0; i < changes; i++) {
            String signs = "Ci+-lsjzcbkoh0123456789 x" + (char) 0 + (char) 255;
            text.setCharAt(random.nextInt(text.length()), signs.charAt(random.nextInt(signs.length())));
        }
        return text.toString();
    }

    private String program() {
        int size = random.nextInt(5) == 0 ? random.nextInt(18) : 6 + random.nextInt(11);
        StringBuilder text = new StringBuilder();
        for (int i = 0; i < size; i++) {
            text.append(instruction(size));
        }
        return text.toString();
    }

    private String instruction(int size) {
        String r = "" + random.nextInt(random.nextBoolean() ? 2 : 4);
        String q = "" + random.nextInt(random.nextBoolean() ? 2 : 4);
        String distance = (random.nextInt(3) == 0 ? "-" : "+") + random.nextInt(random.nextInt(4) == 0 ? 10 : 4);
        int place = random.nextInt(Math.min(16, Math.max(1, size)));
        switch (random.nextInt(16)) {
            case 0: return "i" + r + random.nextInt(10);
            case 1: return "+" + r + q;
            case 2: return "-" + r + q;
            case 3: return "l" + r + random.nextInt(8);
            case 4: return "s" + r + random.nextInt(8);
            case 5: return "j" + distance;
            case 6: return "z" + r + distance;
            case 7: return "j-" + random.nextInt(10);
            case 8: return "c" + place / 10 + place % 10;
            case 9: return "b";
            case 10: return "k" + r;
            case 11: return "o" + r;
            case 12: return random.nextInt(3) == 0 ? "h" : "b";
            case 13: return "z" + r + "-" + random.nextInt(6);
            case 14: return "s" + r + random.nextInt(3);
            default: return "i" + r + random.nextInt(2);
        }
    }

    /** A number of 0 to n - 1, or seldom one outside. */
    private int near(int n) {
        switch (random.nextInt(40)) {
            case 0: return -1;
            case 1: return n;
            case 2: return random.nextInt();
            default: return random.nextInt(n);
        }
    }

    private int place() {
        return near(Math.max(1, x.about(0)));
    }

    private void call() {
        switch (random.nextInt(12)) {
            case 0: case 1: case 2: case 3: case 4: plan(); break;
            case 5: case 6: case 7: act(); break;
            case 8: case 9: ask(); break;
            case 10: look(); break;
            default: slotsAndSights(); break;
        }
        lookAtAll();
    }

    private void plan() {
        int p = random.nextInt(2) == 0 ? 0 : near(4);
        same("plan(" + p + ")", x.plan(p), y.plan(p));
    }

    private void act() {
        int p = place();
        switch (random.nextInt(6)) {
            case 0: {
                int what = near(3);
                int k = near(what == 0 ? 4 : what == 1 ? 8 : 1);
                int v = what == 2 ? p : random.nextBoolean() ? random.nextInt(20) - 10 : random.nextInt();
                same("set(" + what + ", " + k + ", " + v + ")", x.set(what, k, v), y.set(what, k, v));
                break;
            }
            case 1: case 2: {
                int r = random.nextInt(2) == 0 ? -9 : near(4);
                int how = near(3);
                int f = near(random.nextBoolean() ? 3 : 10);
                int by = random.nextBoolean() ? 0 : near(10);
                same("smash(" + p + ", " + r + ", " + how + ", " + f + ", " + by + ")",
                    x.smash(p, r, how, f, by), y.smash(p, r, how, f, by));
                break;
            }
            case 3: same("lift(" + p + ")", x.lift(p), y.lift(p)); break;
            case 4: {
                int m = near(8);
                same("watch(" + m + ")", x.watch(m), y.watch(m));
                break;
            }
            default: same("undo()", x.undo(), y.undo()); break;
        }
    }

    private void ask() {
        int p = place();
        boolean upper = random.nextBoolean();
        switch (random.nextInt(6)) {
            case 0: {
                int what = near(4);
                same("aside(" + p + ", " + what + ")", x.aside(p, what), y.aside(p, what));
                break;
            }
            case 1: {
                int what = near(4);
                same("free(" + what + ")", x.free(what), y.free(what));
                break;
            }
            case 2: {
                int n = near(5);
                long row = row(n);
                same("judge(" + n + ", " + row + ")", x.judge(n, row), y.judge(n, row));
                break;
            }
            case 3: same("share(" + p + ")", x.share(p, upper), y.share(p, upper)); break;
            case 4: {
                int v = near(random.nextBoolean() ? 4 : 21);
                int lost = near(11);
                same("chance(" + v + ", " + lost + ")", x.chance(v, lost, upper), y.chance(v, lost, upper));
                break;
            }
            default: {
                int m = near(11);
                same("drawn(" + m + ")", x.drawn(m), y.drawn(m));
                break;
            }
        }
    }

    private long row(int n) {
        if (random.nextInt(12) == 0) {
            return random.nextLong();
        }
        long row = 0;
        for (int i = 0; i < Math.min(Math.max(n, 0), 5); i++) {
            row = 1000 * row + statement();
        }
        return row;
    }

    private int statement() {
        switch (random.nextInt(12)) {
            case 0: case 1: case 2: return 100 + random.nextInt(5);
            case 3: case 4: return 200 + random.nextInt(17);
            case 5: return 300 + Math.floorMod(x.about(1), 100);
            case 6: return 400 + Math.floorMod(x.register(0), 10);
            case 7: return 500 + random.nextInt(9);
            case 8: return 600 + x.about(2);
            case 9: return 700 + x.about(4) % 100;
            default: return random.nextInt(1000);
        }
    }

    private void slotsAndSights() {
        switch (random.nextInt(7)) {
            case 0: {
                int n = near(random.nextBoolean() ? 4 : 100);
                int was = near(2);
                same("see(" + n + ", " + was + ")", x.see(n, was), y.see(n, was));
                break;
            }
            case 1: same("unsee()", x.unsee(), y.unsee()); break;
            case 2: same("which()", x.which(), y.which()); break;
            case 3: {
                long v = random.nextLong();
                same("seed(" + v + ")", x.seed(v), y.seed(v));
                break;
            }
            case 4: case 5: {
                int slot = near(2);
                same("keep(" + slot + ")", x.keep(slot), y.keep(slot));
                break;
            }
            default: {
                int slot = near(2);
                same("again(" + slot + ")", x.again(slot), y.again(slot));
                break;
            }
        }
    }

    private void look() {
        int what = near(15);
        same("about(" + what + ")", x.about(what), y.about(what));
        int i = near(8);
        same("register(" + i + ")", x.register(i), y.register(i));
        same("cell(" + i + ")", x.cell(i), y.cell(i));
        same("stack(" + i + ")", x.stack(i), y.stack(i));
        int c = near(3);
        same("copy(" + c + ")", x.copy(c), y.copy(c));
        int p = place();
        int w = near(6);
        same("broken(" + p + ", " + w + ")", x.broken(p, w), y.broken(p, w));
    }

    /** Compares all that can be seen; these calls are not counted, as an object may be asked more often here. */
    private void lookAtAll() {
        int before = calls;
        for (int what = 0; what <= 14; what++) {
            same("about(" + what + ")", x.about(what), y.about(what));
        }
        for (int i = 0; i < 8; i++) {
            same("cell", x.cell(i), y.cell(i));
            same("register", x.register(i), y.register(i));
            same("stack", x.stack(i), y.stack(i));
            same("copy", x.copy(i), y.copy(i));
        }
        for (int p = 0; p < x.about(0); p++) {
            for (int what = 0; what <= 5; what++) {
                same("broken(" + p + ", " + what + ")", x.broken(p, what), y.broken(p, what));
            }
        }
        calls = before;
    }
}
