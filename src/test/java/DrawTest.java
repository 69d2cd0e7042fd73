/** Promises 26 and 27: seed and drawn. */
public final class DrawTest {
    private static final Due due = new Due();

    public static void main(String[] args) {
        seed();
        errors();
        steps();
        nothingElseChanges();
        due.end();
    }

    private static long next(long seed) {
        return seed * 6364136223846793005L + 1442695040888963407L;
    }

    private static void seed() {
        SideStep x = new SideStep();
        due.is("seed", x.seed(Long.MIN_VALUE), 0);
        due.is("seed", x.seed(Long.MAX_VALUE), Long.MIN_VALUE);
        due.is("seed", x.seed(-1), Long.MAX_VALUE);
        due.is("seed", x.seed(0), -1);
        due.is("no act", x.about(12), 0);
    }

    private static void errors() {
        SideStep x = Due.coded("Ch");
        for (int wrong : new int[] {0, -1, 11, Integer.MAX_VALUE, Integer.MIN_VALUE}) {
            due.is("drawn(" + wrong + ")", x.drawn(wrong), -2);
        }
        due.is("seed stays", x.seed(0), 0);
        due.is("drawn(1)", x.drawn(1), 1);
        due.is("drawn(10)", x.drawn(10), 10);
    }

    /** A loop that counts register r down to 0: three steps a round, and three besides. */
    private static void steps() {
        for (int r = 0; r < 4; r++) {
            int q = (r + 1) % 4;
            SideStep x = Due.coded("Ci" + q + "1z" + r + "+3-" + r + q + "j-2h");
            long seed = 12345 + 99L * r;
            x.seed(seed);
            for (int m = 1; m <= 10; m++) {
                int want = 0;
                for (int i = 0; i < m; i++) {
                    seed = next(seed);
                    int v = (int) (seed >>> 33);
                    want += 3 + 3 * ((v >> 4 * r) & 15);
                }
                due.is("drawn(" + m + ")", x.drawn(m), want);
                due.is("seed", x.seed(seed), seed);
            }
        }
        due.is("the limit", Due.coded("Cj+0").drawn(10), 3000);
        due.is("a fault at once", Due.coded("Cb").drawn(3), 0);
        due.is("a fault", Due.coded("Co0b").drawn(3), 3);
    }

    private static void nothingElseChanges() {
        SideStep x = Due.coded("Co0s01c04hs02h");
        x.smash(1, -9, 0, 0, 0);
        x.watch(1);
        x.set(0, 2, 77);
        x.plan(3);
        x.seed(3);
        String before = Due.picture(x);
        due.is("drawn(2)", x.drawn(2), 8);
        due.is("seed", x.seed(3), next(next(3)));
        due.isTrue("nothing else changes", before.equals(Due.picture(x)));
        SideStep y = Due.coded("Ch");
        y.plan(0);
        due.is("halted already", y.drawn(4), 0);
        due.is("but the seed changes", y.seed(0), next(next(next(next(0)))));
    }
}
