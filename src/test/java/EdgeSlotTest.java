/** The boundary cases of promises 28 and 29, a test for each sentence. */
public final class EdgeSlotTest {
    private static final int MAX = Integer.MAX_VALUE;
    private static final int MIN = Integer.MIN_VALUE;
    private static final Due due = new Due();

    public static void main(String[] args) {
        slotRange();
        nothingKept();
        keepReturnsTheClock();
        keptAnew();
        slotsAreTwo();
        againAndAgain();
        noActsThen();
        refusedAgainKeepsActs();
        allIsKept();
        theStackIsKept();
        breakpointsAreKept();
        theOthersStay();
        codeEmptiesTheSlots();
        due.end();
    }

    private static void slotRange() {
        due.of("promises 28 and 29: UNKNOWN if slot is out of range, before LATE");
        SideStep x = Due.coded("Ch");
        for (int slot : new int[] {-1, 2, -9, MIN, MAX}) {
            due.is("keep(" + slot + ")", x.keep(slot), -1);
            due.is("again(" + slot + ")", x.again(slot), -1);
        }
        due.is("nothing was kept", x.again(0), -3);
        due.is("nothing was kept", x.again(1), -3);
        due.is("keep(0)", x.keep(0), 0);
        due.is("keep(1)", x.keep(1), 0);
        due.is("again(0)", x.again(0), 0);
        due.is("again(1)", x.again(1), 0);
        for (int slot : new int[] {-1, 2, MIN, MAX}) {
            due.is("again(" + slot + ")", x.again(slot), -1);
        }
    }

    private static void nothingKept() {
        due.of("promise 29: LATE if nothing was kept in it");
        for (int slot = 0; slot <= 1; slot++) {
            SideStep x = new SideStep();
            due.is("again(" + slot + ")", x.again(slot), -3);
            x.keep(1 - slot);
            due.is("again(" + slot + ")", x.again(slot), -3);
            due.is("again(" + (1 - slot) + ")", x.again(1 - slot), 0);
            x.keep(slot);
            due.is("again(" + slot + ")", x.again(slot), 0);
        }
    }

    private static void keepReturnsTheClock() {
        due.of("promises 28 and 29: returns the clock");
        SideStep x = Due.coded("Cj+0");
        due.is("keep(0) at the beginning", x.keep(0), 0);
        x.plan(3);
        x.plan(3);
        due.is("keep(1)", x.keep(1), 198);
        x.plan(0);
        due.is("again(0)", x.again(0), 0);
        due.is("clock", x.about(10), 0);
        due.is("again(1)", x.again(1), 198);
        due.is("clock", x.about(10), 198);
    }

    private static void keptAnew() {
        due.of("promise 28: keeps in a slot, also where something was kept");
        SideStep x = new SideStep();
        for (int i = 1; i <= 20; i++) {
            x.set(0, 0, i);
            x.keep(i % 2);
        }
        x.again(0);
        due.is("slot 0", x.register(0), 20);
        x.again(1);
        due.is("slot 1", x.register(0), 19);
    }

    private static void slotsAreTwo() {
        due.of("promise 28: slot 0 or 1, each on its own");
        SideStep x = new SideStep();
        x.watch(0);
        x.keep(0);
        x.watch(7);
        x.keep(1);
        x.watch(3);
        x.again(0);
        due.is("slot 0", x.about(7), 1);
        x.again(1);
        due.is("slot 1", x.about(7), 129);
        x.keep(0);
        x.watch(0);
        x.again(0);
        due.is("slot 0 anew", x.about(7), 129);
    }

    private static void againAndAgain() {
        due.of("promise 29: goes on from what was kept; the slot stays");
        SideStep x = Due.coded("Ck0o0j-2");
        x.plan(0);
        x.keep(0);
        String kept = Due.kept(x);
        for (int i = 0; i < 3; i++) {
            x.plan(3);
            due.is("again(0)", x.again(0), 1);
        }
        due.isTrue("as it was kept", kept.equals(Due.kept(x)));
    }

    private static void noActsThen() {
        due.of("promise 29: there are no acts to be undone then");
        SideStep x = new SideStep();
        for (int i = 0; i < 14; i++) {
            x.set(0, 0, i);
        }
        x.keep(0);
        due.is("keep() leaves the acts", x.about(12), 14);
        x.again(0);
        due.is("acts", x.about(12), 0);
        due.is("undo()", x.undo(), -3);
        due.is("register(0)", x.register(0), 13);
        x.set(0, 0, 99);
        due.is("acts", x.about(12), 1);
        due.is("undo()", x.undo(), 0);
        due.is("register(0)", x.register(0), 13);
    }

    private static void refusedAgainKeepsActs() {
        due.of("promise 29: a refused call changes nothing");
        SideStep x = new SideStep();
        for (int i = 1; i <= 14; i++) {
            x.set(0, 0, i);
        }
        due.is("again(0)", x.again(0), -3);
        due.is("again(2)", x.again(2), -1);
        due.is("keep(2)", x.keep(2), -1);
        due.is("acts", x.about(12), 14);
        due.is("register(0)", x.register(0), 14);
        due.is("undo()", x.undo(), 13);
        due.is("register(0)", x.register(0), 13);
    }

    /** A machine with a full stack, three copies, all places armed, all cells watched and some puts. */
    private static SideStep full() {
        SideStep x = Due.coded("Ck0o0s07c00" + "h".repeat(12));
        for (int place = 0; place < 16; place++) {
            x.smash(place, place % 5 - 1 < 0 ? -9 : place % 4, place % 3, place % 10, 9 - place % 10);
        }
        for (int m = 0; m < 8; m++) {
            x.watch(m);
            x.set(1, m, MIN + m);
        }
        for (int i = 0; i < 40; i++) {
            x.plan(0);
        }
        return x;
    }

    private static void allIsKept() {
        due.of("promise 28: machine, breakpoints, watched cells, copies, cost and clock");
        SideStep x = full();
        due.is("places on the stack", x.about(2), 8);
        due.is("copies", x.about(8), 3);
        String kept = Due.kept(x);
        x.keep(1);
        for (int place = 0; place < 16; place++) {
            x.lift(place);
        }
        for (int m = 0; m < 8; m++) {
            x.watch(m);
            x.set(1, m, 0);
        }
        for (int r = 0; r <= 3; r++) {
            x.set(0, r, MAX);
        }
        x.set(2, 0, 15);
        x.plan(3);
        due.is("halted", x.about(3), 1);
        x.again(1);
        due.isTrue("all is as it was kept", kept.equals(Due.kept(x)));
        SideStep y = Due.coded("Ch");
        y.keep(0);
        y.plan(0);
        y.keep(1);
        y.again(0);
        due.is("not halted in slot 0", y.about(3), 0);
        y.again(1);
        due.is("halted in slot 1", y.about(3), 1);
    }

    private static void theStackIsKept() {
        due.of("promise 28: the places on the stack, none and eight");
        SideStep x = Due.coded("Cc01c02c03c04c05c06c07c08" + "h".repeat(7) + "c15");
        x.keep(0);
        Due.steps(x, 8);
        x.keep(1);
        x.again(0);
        due.is("slot 0", x.stack(0), -9);
        x.set(2, 0, 15);
        Due.steps(x, 8);
        due.is("others", x.stack(7), 16);
        x.again(1);
        for (int i = 0; i <= 8; i++) {
            due.is("stack(" + i + ") of slot 1", x.stack(i), i < 8 ? i + 1 : -9);
        }
    }

    private static void breakpointsAreKept() {
        due.of("promise 28: the breakpoints of the first and the last place");
        for (int place : new int[] {0, 15}) {
            SideStep x = Due.coded("C" + "j+0".repeat(16));
            x.keep(0);
            x.set(2, 0, place);
            x.smash(place, -9, 0, 0, 0);
            x.plan(0);
            x.smash(place, 3, 2, 9, 9);
            x.keep(1);
            x.again(0);
            due.brokenIs(x, place, 0, -9, -9, -9, 0, 0);
            x.again(1);
            due.brokenIs(x, place, 2, 3, 2, 9, 9, 1);
        }
    }

    private static void theOthersStay() {
        due.of("promise 29: the text, the sights and the seed are not kept");
        SideStep x = Due.coded("Ch");
        x.see(1, 1);
        x.seed(MAX);
        x.keep(0);
        x.see(2, 1);
        x.seed(MIN);
        x.write('h');
        x.again(0);
        due.is("sights", x.about(13), 2);
        due.is("seed", x.seed(0), MIN);
        due.is("length", x.about(14), 3);
        due.is("instructions", x.about(0), 1);
    }

    private static void codeEmptiesTheSlots() {
        due.of("promise 5: the slots are empty");
        SideStep x = Due.coded("Ch");
        x.keep(0);
        x.keep(1);
        x.write('x');
        due.is("code() that is refused", x.code(), -3);
        due.is("again(0)", x.again(0), 0);
        due.is("again(1)", x.again(1), 0);
        Due.write(x, "C");
        due.is("code()", x.code(), 0);
        due.is("again(0)", x.again(0), -3);
        due.is("again(1)", x.again(1), -3);
    }
}
