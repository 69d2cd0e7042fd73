/** The boundary cases of promises 26 and 27, a test for each sentence. */
public final class EdgeDrawTest {
    private static final int MAX = Integer.MAX_VALUE;
    private static final int MIN = Integer.MIN_VALUE;
    private static final Due due = new Due();

    public static void main(String[] args) {
        seedOfAllLongs();
        drawnRange();
        refusedDrawnKeepsTheSeed();
        seedWraps();
        registersOfFourBits();
        registersReplaceThePresentOnes();
        sumOfSteps();
        haltedAlready();
        nothingButTheSeedChanges();
        due.end();
    }

    private static long next(long seed) {
        return seed * 6364136223846793005L + 1442695040888963407L;
    }

    private static void seedOfAllLongs() {
        due.of("promise 26: sets the seed and returns the previous one");
        SideStep x = new SideStep();
        long before = 0;
        for (long v : new long[] {Long.MIN_VALUE, Long.MAX_VALUE, -1, 1, 1L << 32, -9, 0}) {
            due.is("seed(" + v + ")", x.seed(v), before);
            before = v;
        }
        due.is("no act", x.about(12), 0);
    }

    private static void drawnRange() {
        due.of("promise 27: m is 1 to 10, otherwise BAD");
        SideStep x = Due.coded("Ch");
        for (int m : new int[] {0, 11, -1, -9, MIN, MAX}) {
            due.is("drawn(" + m + ")", x.drawn(m), -2);
        }
        for (int m = 1; m <= 10; m++) {
            due.is("drawn(" + m + ")", x.drawn(m), m);
        }
    }

    private static void refusedDrawnKeepsTheSeed() {
        due.of("promise 27: a refused call leaves the seed");
        SideStep x = Due.coded("Ch");
        x.seed(12345);
        for (int m : new int[] {0, 11, -1, MIN, MAX}) {
            x.drawn(m);
            due.is("seed after drawn(" + m + ")", x.seed(12345), 12345);
        }
    }

    private static void seedWraps() {
        due.of("promise 27: long arithmetic with overflow, once before each run");
        for (long seed : new long[] {0, 1, -1, Long.MAX_VALUE, Long.MIN_VALUE}) {
            SideStep x = Due.coded("Ch");
            x.seed(seed);
            long want = seed;
            for (int m = 1; m <= 10; m++) {
                x.drawn(m);
                for (int i = 0; i < m; i++) {
                    want = next(want);
                }
                due.is("seed after drawn(" + m + ")", x.seed(want), want);
            }
        }
    }

    /** A loop that counts register r down to 0: three steps a round, and three besides. */
    private static SideStep countsDown(int r) {
        int q = (r + 1) % 4;
        return Due.coded("Ci" + q + "1z" + r + "+3-" + r + q + "j-2h");
    }

    private static void registersOfFourBits() {
        due.of("promise 27: register r is (v >> (4 * r)) & 15");
        for (int r = 0; r <= 3; r++) {
            SideStep x = countsDown(r);
            int seen = 0;
            long seed = 1000 + r;
            for (int tries = 0; tries < 150; tries++) {
                x.seed(seed);
                int v = (int) (next(seed) >>> 33);
                int value = (v >> (4 * r)) & 15;
                due.is("steps with register " + r + " = " + value, x.drawn(1), 3 + 3 * value);
                seen |= 1 << value;
                seed = next(seed);
            }
            due.is("the values from 0 to 15 of register " + r, seen, 65535);
        }
    }

    private static void registersReplaceThePresentOnes() {
        due.of("promise 27: with random registers, whatever the present ones are");
        for (int present : new int[] {MIN, -1, 0, 16, MAX}) {
            SideStep x = countsDown(2);
            for (int r = 0; r <= 3; r++) {
                x.set(0, r, present);
            }
            x.seed(7);
            int v = (int) (next(7) >>> 33);
            due.is("drawn(1)", x.drawn(1), 3 + 3 * (v >> 8 & 15));
            due.is("register(2)", x.register(2), present);
        }
    }

    private static void sumOfSteps() {
        due.of("promise 27: the sum of the numbers of steps");
        due.is("300 steps each", Due.coded("Cj+0").drawn(10), 3000);
        due.is("no step", Due.coded("C").drawn(10), 0);
        due.is("no program", new SideStep().drawn(10), 0);
        due.is("a step that halts counts", Due.coded("Ch").drawn(10), 10);
        due.is("a step that faults does not", Due.coded("Ci00b").drawn(10), 10);
        SideStep x = Due.coded("Cc00");
        Due.steps(x, 3);
        due.is("with the present stack", x.drawn(2), 10);
    }

    private static void haltedAlready() {
        due.of("promise 27: if the machine has halted already, there are 0 steps");
        SideStep x = Due.coded("Ch");
        x.plan(0);
        x.seed(1);
        due.is("drawn(10)", x.drawn(10), 0);
        long seed = 1;
        for (int i = 0; i < 10; i++) {
            seed = next(seed);
        }
        due.is("the seed changes", x.seed(0), seed);
    }

    private static void nothingButTheSeedChanges() {
        due.of("promise 27: nothing but the seed changes");
        SideStep x = Due.coded("Co0s01c05hhk1s12b");
        x.smash(1, -9, 0, 0, 1);
        x.smash(5, -9, 0, 0, 0);
        x.watch(7);
        x.plan(3);
        x.seed(5);
        String before = Due.picture(x);
        x.drawn(10);
        due.isTrue("the seed changes", x.seed(5) != 5);
        due.isTrue("nothing else does", before.equals(Due.picture(x)));
    }
}
