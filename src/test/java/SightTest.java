/** Promises 21 to 23: see, unsee, which. */
public final class SightTest {
    private static final Due due = new Due();

    public static void main(String[] args) {
        see();
        unsee();
        which();
        whichOfHaltsAndFaults();
        whichFromPresentState();
        due.end();
    }

    private static void see() {
        SideStep x = new SideStep();
        int[][] bad = {{-1, 0}, {100, 1}, {0, -1}, {0, 2}, {Integer.MAX_VALUE, 0}, {Integer.MIN_VALUE, 0},
            {0, Integer.MAX_VALUE}, {0, Integer.MIN_VALUE}};
        for (int[] b : bad) {
            due.is("see(" + b[0] + ", " + b[1] + ")", x.see(b[0], b[1]), -2);
        }
        due.is("sights", x.about(13), 0);
        for (int i = 1; i <= 6; i++) {
            due.is("see", x.see(i % 2 * 99, i % 2), i);
        }
        due.is("seventh", x.see(0, 0), -4);
        due.is("bad before full", x.see(100, 0), -2);
        due.is("sights", x.about(13), 6);
        due.is("no act", x.about(12), 0);
    }

    private static void unsee() {
        SideStep x = Due.coded("Co0h");
        due.is("unsee()", x.unsee(), 0);
        x.see(7, 1);
        x.see(7, 1);
        due.is("which()", x.which(), 0);
        due.is("unsee()", x.unsee(), 2);
        due.is("unsee()", x.unsee(), 0);
        due.is("sights", x.about(13), 0);
        due.is("which() without sights", x.which(), 3);
        due.is("see", x.see(1, 0), 1);
    }

    private static void which() {
        SideStep x = Due.coded("Ci02o0i11-01z0+2j-4h");
        x.smash(1, -9, 0, 0, 0);
        x.watch(0);
        due.is("all places", x.which(), 127);
        due.is("free", x.free(2), 2);
        // Without the HALT the run faults behind it; without any other it puts out fewer or more.
        x.see(2, 1);
        due.is("HALT", x.which(), 64);
        x.see(2, 0);
        due.is("both cannot be", x.which(), 0);
        x.unsee();
        x.see(2, 0);
        due.is("the other places", x.which(), 63);
        due.is("which() of none", new SideStep().which(), 0);
        SideStep y = Due.coded("Co0o0j+1h");
        y.see(1, 1);
        due.is("the PUTs", y.which(), 3);
        y.see(0, 0);
        due.is("the PUTs still", y.which(), 3);
        y.see(2, 1);
        due.is("not both", y.which(), 0);
    }

    private static void whichOfHaltsAndFaults() {
        SideStep x = Due.coded("Cho0bo0o0");
        x.see(1, 1);
        due.is("HALT that does nothing, then a fault", x.which(), 1);
        x.unsee();
        x.see(0, 1);
        due.is("the others halt at once", x.which(), 2 + 4 + 8 + 16);
        SideStep y = Due.coded("Co0bo0h");
        y.see(2, 1);
        due.is("RETURN that does nothing", y.which(), 2);
        SideStep z = Due.coded("Cj+2o0h");
        z.see(1, 1);
        due.is("JUMP that does nothing", z.which(), 1);
        SideStep w = Due.coded("Cc00o0h");
        w.see(1, 1);
        due.is("CALL that does nothing", w.which(), 1);
        SideStep v = Due.coded("Co0j-1");
        v.see(1, 1);
        due.is("JUMP that does nothing, then a fault", v.which(), 2);
        v.unsee();
        v.see(99, 0);
        due.is("150 or 0 or 1", v.which(), 3);
    }

    private static void whichFromPresentState() {
        SideStep x = Due.coded("Co0ho0h");
        x.see(1, 1);
        due.is("before", x.which(), 4 + 8);
        x.see(2, 0);
        due.is("before", x.which(), 4 + 8);
        x.plan(3);
        due.is("halted already", x.which(), 15);
        x.set(2, 0, 2);
        due.is("put out in all", x.which(), 4);
        Due.write(x, "Cho0");
        x.code();
        due.is("sights stay with another program", x.which(), 1);
    }
}
