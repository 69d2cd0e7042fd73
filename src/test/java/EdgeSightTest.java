/** The boundary cases of promises 21 to 23, a test for each sentence. */
public final class EdgeSightTest {
    private static final int MAX = Integer.MAX_VALUE;
    private static final int MIN = Integer.MIN_VALUE;
    private static final Due due = new Due();

    public static void main(String[] args) {
        seeNumbers();
        seeWas();
        seeFull();
        seeOrderOfErrors();
        unsee();
        whichOfNoSight();
        whichOfPlaces();
        whichExactly();
        whichAllSights();
        whichDoesNothing();
        whichAtTheLastPlace();
        whichCounterOutside();
        whichHaltedAlready();
        whichLimit();
        due.end();
    }

    private static void seeNumbers() {
        due.of("promise 21: n is 0 to 99, otherwise BAD");
        SideStep x = new SideStep();
        for (int n : new int[] {-1, 100, -9, MIN, MAX}) {
            due.is("see(" + n + ", 0)", x.see(n, 0), -2);
            due.is("see(" + n + ", 1)", x.see(n, 1), -2);
        }
        due.is("sights", x.about(13), 0);
        due.is("see(0, 0)", x.see(0, 0), 1);
        due.is("see(99, 0)", x.see(99, 0), 2);
    }

    private static void seeWas() {
        due.of("promise 21: was is 1 or 0, otherwise BAD");
        SideStep x = new SideStep();
        for (int was : new int[] {-1, 2, -9, MIN, MAX}) {
            due.is("see(0, " + was + ")", x.see(0, was), -2);
            due.is("see(99, " + was + ")", x.see(99, was), -2);
            due.is("see(100, " + was + ")", x.see(100, was), -2);
        }
        due.is("sights", x.about(13), 0);
        due.is("see(0, 0)", x.see(0, 0), 1);
        due.is("see(0, 1)", x.see(0, 1), 2);
    }

    private static void seeFull() {
        due.of("promise 21: FULL if there are 6 sights");
        SideStep x = Due.coded("Ch");
        for (int sights = 1; sights <= 6; sights++) {
            due.is("see", x.see(0, 1), sights);
        }
        due.is("the seventh", x.see(1, 1), -4);
        due.is("sights", x.about(13), 6);
        due.is("the seventh is not among them", x.which(), 1);
        due.is("unsee()", x.unsee(), 6);
        due.is("see", x.see(0, 1), 1);
    }

    private static void seeOrderOfErrors() {
        due.of("promise 21: BAD, then FULL");
        SideStep x = new SideStep();
        for (int sights = 1; sights <= 6; sights++) {
            x.see(sights, 0);
        }
        due.is("see(-1, 0)", x.see(-1, 0), -2);
        due.is("see(100, 1)", x.see(100, 1), -2);
        due.is("see(0, 2)", x.see(0, 2), -2);
        due.is("see(0, 1)", x.see(0, 1), -4);
    }

    private static void unsee() {
        due.of("promise 22: removes all sights and returns how many there were");
        for (int sights = 0; sights <= 6; sights++) {
            SideStep x = Due.coded("Ch");
            for (int i = 0; i < sights; i++) {
                x.see(50, 1);
            }
            due.is("which()", x.which(), sights == 0 ? 1 : 0);
            due.is("unsee()", x.unsee(), sights);
            due.is("sights", x.about(13), 0);
            due.is("which()", x.which(), 1);
            due.is("unsee() again", x.unsee(), 0);
        }
    }

    private static void whichOfNoSight() {
        due.of("promise 23: without a sight each place can be the unknown one");
        due.is("no program", new SideStep().which(), 0);
        for (int size = 0; size <= 16; size++) {
            due.is("of " + size, Due.coded("C" + "h".repeat(size)).which(), (1 << size) - 1);
        }
    }

    private static void whichOfPlaces() {
        due.of("promise 23: a bit set of places");
        SideStep x = Due.coded("Co0" + "i00".repeat(14) + "o0");
        x.see(1, 1);
        due.is("the first and the last", x.which(), 32769);
        x.unsee();
        x.see(1, 0);
        due.is("all others", x.which(), 65535 - 32769);
        SideStep y = Due.coded("C" + "i00".repeat(15) + "o0");
        y.see(0, 1);
        due.is("the last", y.which(), 32768);
    }

    /** A machine that is outside its program, with a number of puts. */
    private static SideStep withPuts(int puts) {
        SideStep x = Due.coded("Co0j-1");
        Due.steps(x, 2 * puts);
        x.plan(0);
        x.set(2, 0, 1);
        return x;
    }

    private static void whichExactly() {
        due.of("promise 21: whether exactly n numbers were put out in all at its end");
        // The JUMP that does nothing leads to a fault; the PUT that does nothing to 300 steps without one.
        for (int puts : new int[] {1, 2, 98, 99, 100}) {
            for (int n : new int[] {0, 1, 2, 97, 98, 99}) {
                SideStep x = withPuts(puts - 1);
                due.is("puts", x.about(4), puts);
                x.see(n, 1);
                due.is("see(" + n + ", 1) of " + puts, x.which(), n == puts ? 3 : 0);
                x.unsee();
                x.see(n, 0);
                due.is("see(" + n + ", 0) of " + puts, x.which(), n == puts ? 0 : 3);
            }
        }
        SideStep none = Due.coded("Ch");
        none.see(0, 1);
        due.is("none is exactly 0", none.which(), 1);
    }

    private static void whichAllSights() {
        due.of("promise 23: with it, all sights are true");
        for (int wrong = 0; wrong < 6; wrong++) {
            SideStep x = Due.coded("Co0h");
            for (int i = 0; i < 6; i++) {
                x.see(i == wrong ? 1 : 7 + i, i == wrong ? 1 : 0);
            }
            due.is("HALT alone", x.which(), 2);
            SideStep y = Due.coded("Ch");
            for (int i = 0; i < 6; i++) {
                y.see(0, i == wrong ? 0 : 1);
            }
            due.is("sight " + wrong + " is not true", y.which(), 0);
        }
        SideStep z = Due.coded("Ch");
        for (int i = 0; i < 6; i++) {
            z.see(0, 1);
        }
        due.is("six that are true", z.which(), 1);
    }

    private static void whichDoesNothing() {
        due.of("promise 21: it is followed by the next place, and neither halts nor faults");
        String[] firsts = {"h", "b", "c00", "j-9", "j+9", "j+0", "z0-1", "z0+9"};
        for (String first : firsts) {
            SideStep x = Due.coded("C" + first + "o0h");
            x.see(1, 1);
            due.is("place 0 of " + first, x.which() & 1, 1);
            due.is("no step is made", x.about(10), 0);
        }
        SideStep y = Due.coded("Cc00o0h");
        Due.steps(y, 8);
        y.see(1, 1);
        due.is("a CALL with 8 places on the stack", y.which(), 1);
        SideStep z = Due.coded("Ci01k0o0l00s00+00o0h");
        z.see(1, 1);
        due.is("one of two PUTs", z.which(), 4 + 64);
        SideStep w = Due.coded("Ci01z0+2o0h");
        w.see(1, 1);
        due.is("SET that does nothing leaves 0", w.which(), 2 + 8);
        w.unsee();
        w.see(0, 1);
        due.is("then ZERO goes past the PUT", w.which(), 1 + 4);
    }

    private static void whichAtTheLastPlace() {
        due.of("promise 21: the next place, also where there is none");
        SideStep x = Due.coded("C" + "i00".repeat(15) + "h");
        x.see(0, 1);
        due.is("which()", x.which(), 65535);
        SideStep y = Due.coded("Co0j-1");
        y.see(1, 1);
        due.is("the JUMP, then a fault", y.which(), 2);
    }

    private static void whichCounterOutside() {
        due.of("promise 23: the free run from the present state, also outside the program");
        for (String text : new String[] {"Cj-1", "Cj-9", "Cj+1", "Cj+9"}) {
            SideStep x = Due.coded(text);
            x.plan(0);
            due.is("free", x.free(1), 0);
            x.see(0, 1);
            due.is("which() of " + text, x.which(), 1);
            x.see(0, 0);
            due.is("which() of " + text, x.which(), 0);
        }
        SideStep y = Due.coded("C" + "h".repeat(15) + "j+1");
        y.set(2, 0, 15);
        y.plan(0);
        due.is("counter", y.about(1), 16);
        y.see(0, 1);
        due.is("which()", y.which(), 65535);
    }

    private static void whichHaltedAlready() {
        due.of("promise 23: if the machine has halted already, there is no step");
        SideStep x = Due.coded("Cho0h");
        x.see(1, 1);
        due.is("HALT that does nothing", x.which(), 1);
        x.plan(0);
        due.is("halted", x.which(), 0);
        x.unsee();
        x.see(0, 1);
        due.is("halted", x.which(), 7);
        x.set(2, 0, 0);
        due.is("goes on", x.which(), 6);
    }

    private static void whichLimit() {
        due.of("promise 23: at most 300 steps, the one that does nothing included");
        // With the SET of place 3 (or HALT) doing nothing, the PUT is the step 300 or 301.
        SideStep x = Due.coded("C+01z0+2j-2o1h");
        x.set(0, 0, -100);
        x.set(0, 1, 1);
        x.see(1, 1);
        due.is("PUT is the 300th step", x.which() & 16, 16);
        SideStep y = Due.coded("C+01z0+2j-2i20o1h");
        y.set(0, 0, -100);
        y.set(0, 1, 1);
        y.see(1, 1);
        due.is("PUT is the 301st step", y.which() & 8, 0);
        y.set(0, 0, -99);
        due.is("PUT is the 298th step", y.which() & 8, 8);
    }
}
