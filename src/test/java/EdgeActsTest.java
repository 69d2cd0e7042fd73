/** The boundary cases of ACTS and of promises 13 and 17, a test for each sentence. */
public final class EdgeActsTest {
    private static final int MAX = Integer.MAX_VALUE;
    private static final int MIN = Integer.MIN_VALUE;
    private static final Due due = new Due();

    public static void main(String[] args) {
        setWhats();
        setRegisters();
        setCells();
        setCounter();
        setCounterWithK();
        setReturnsThePreviousValue();
        whatIsAnAct();
        whatIsNoAct();
        refusedCallsAreNoActs();
        latestFourteen();
        undoLate();
        undoReturns();
        undoneIsNotDoneAgain();
        undoOfEachAct();
        undoOfTheStack();
        undoOfBreakpoints();
        undoLeavesTheOthers();
        due.end();
    }

    private static void setWhats() {
        due.of("promise 13: BAD if what is out of range, before UNKNOWN");
        SideStep x = Due.coded("Ch");
        for (int what : new int[] {-1, 3, -9, MIN, MAX}) {
            due.is("set(" + what + ", 0, 0)", x.set(what, 0, 0), -2);
            due.is("set(" + what + ", 8, 16)", x.set(what, 8, 16), -2);
            due.is("set(" + what + ", -1, -1)", x.set(what, -1, -1), -2);
        }
        due.is("no acts", x.about(12), 0);
        for (int what = 0; what <= 2; what++) {
            due.is("set(" + what + ", 0, 0)", x.set(what, 0, 0), 0);
        }
    }

    private static void setRegisters() {
        due.of("promise 13: UNKNOWN if there is no such register");
        SideStep x = Due.coded("C" + "h".repeat(16));
        for (int k : new int[] {-1, 4, 7, MIN, MAX}) {
            due.is("set(0, " + k + ", 5)", x.set(0, k, 5), -1);
        }
        for (int r = 0; r <= 3; r++) {
            due.is("register(" + r + ")", x.register(r), 0);
            due.is("set(0, " + r + ", MIN)", x.set(0, r, MIN), 0);
            due.is("register(" + r + ")", x.register(r), MIN);
            due.is("set(0, " + r + ", MAX)", x.set(0, r, MAX), MIN);
        }
        due.is("acts", x.about(12), 8);
    }

    private static void setCells() {
        due.of("promise 13: UNKNOWN if there is no such cell");
        SideStep x = Due.coded("C" + "h".repeat(16));
        for (int k : new int[] {-1, 8, 15, MIN, MAX}) {
            due.is("set(1, " + k + ", 5)", x.set(1, k, 5), -1);
        }
        for (int m = 0; m <= 7; m++) {
            due.is("cell(" + m + ")", x.cell(m), 0);
            due.is("set(1, " + m + ", MAX)", x.set(1, m, MAX), 0);
            due.is("cell(" + m + ")", x.cell(m), MAX);
        }
        due.is("acts", x.about(12), 8);
    }

    private static void setCounter() {
        due.of("promise 13: for what = 2 a place with an instruction");
        for (int size : new int[] {0, 1, 15, 16}) {
            SideStep x = Due.coded("C" + "h".repeat(size));
            for (int v : new int[] {-1, size, 16, -9, MIN, MAX}) {
                due.is("set(2, 0, " + v + ") of " + size, x.set(2, 0, v), -1);
            }
            due.is("counter", x.about(1), 0);
            due.is("no acts", x.about(12), 0);
            if (size > 0) {
                due.is("the last place", x.set(2, 0, size - 1), 0);
                due.is("counter", x.about(1), size - 1);
                due.is("the first place", x.set(2, 0, 0), size - 1);
            }
        }
    }

    private static void setCounterWithK() {
        due.of("promise 13: UNKNOWN if k is not 0 for what = 2");
        SideStep x = Due.coded("Chh");
        for (int k : new int[] {-1, 1, 3, MIN, MAX}) {
            due.is("set(2, " + k + ", 1)", x.set(2, k, 1), -1);
        }
        due.is("counter", x.about(1), 0);
        due.is("set(2, 0, 1)", x.set(2, 0, 1), 0);
    }

    private static void setReturnsThePreviousValue() {
        due.of("promise 13: returns the previous value");
        SideStep x = Due.coded("Cj-9" + "h".repeat(14) + "j+9");
        x.plan(0);
        due.is("the smallest counter", x.set(2, 0, 15), -9);
        x.plan(0);
        due.is("the largest counter", x.set(2, 0, 15), 24);
        due.is("the same place", x.set(2, 0, 15), 15);
        due.is("a register", x.set(0, 3, -1), 0);
        due.is("that looks like an error", x.set(0, 3, -1), -1);
    }

    private static void whatIsAnAct() {
        due.of("the acts are the successful calls of plan(), set(), smash(), lift() and watch()");
        SideStep x = Due.coded("Cc01h");
        x.set(0, 0, 0);
        due.is("set() of the value it has", x.about(12), 1);
        x.set(1, 7, 1);
        due.is("set() of a cell", x.about(12), 2);
        x.set(2, 0, 0);
        due.is("set() of the counter", x.about(12), 3);
        x.smash(0, -9, 0, 0, 0);
        due.is("smash()", x.about(12), 4);
        x.lift(0);
        due.is("lift()", x.about(12), 5);
        x.watch(7);
        due.is("watch()", x.about(12), 6);
        x.watch(7);
        due.is("watch() again", x.about(12), 7);
        for (int plan : new int[] {0, 1, 2, 3}) {
            x.plan(plan);
            due.is("plan(" + plan + ")", x.about(12), 8 + plan);
        }
        SideStep y = new SideStep();
        y.plan(0);
        due.is("a plan that faults", y.about(12), 1);
    }

    private static void whatIsNoAct() {
        due.of("no other call is an act");
        SideStep x = Due.coded("Ci01o0h");
        x.smash(1, -9, 0, 0, 0);
        x.wipe();
        x.write('C');
        x.fault();
        x.about(0);
        x.register(0);
        x.cell(0);
        x.stack(0);
        x.broken(0, 0);
        x.copy(0);
        x.aside(0, 0);
        x.free(0);
        x.judge(4, 201100503103L);
        x.see(1, 1);
        x.which();
        x.unsee();
        x.share(1, true);
        x.chance(1, 1, true);
        x.seed(1);
        x.drawn(1);
        x.keep(0);
        due.is("acts", x.about(12), 1);
        due.is("undo()", x.undo(), 0);
        due.is("the breakpoint", x.about(6), 0);
    }

    private static void refusedCallsAreNoActs() {
        due.of("the acts are the successful calls");
        SideStep x = Due.coded("Ch");
        for (int i = 0; i < 3; i++) {
            x.smash(0, -9, 0, 0, 0);
        }
        x.plan(-1);
        x.plan(4);
        x.plan(2);
        x.set(3, 0, 0);
        x.set(0, 4, 0);
        x.set(1, 8, 0);
        x.set(2, 0, 1);
        x.smash(1, -9, 0, 0, 0);
        x.smash(0, 4, 0, 0, 0);
        x.smash(0, -9, 0, 0, 0);
        x.lift(1);
        x.watch(8);
        due.is("acts", x.about(12), 3);
        due.is("undo()", x.undo(), 2);
        due.is("breakpoints", x.broken(0, 0), 2);
        x.lift(0);
        x.lift(0);
        due.is("acts", x.about(12), 4);
        x.lift(0);
        due.is("lift() of none is no act", x.about(12), 4);
    }

    private static void latestFourteen() {
        due.of("the latest 14 acts can be undone");
        for (int acts : new int[] {0, 1, 13, 14, 15, 27, 28, 29, 100}) {
            SideStep x = new SideStep();
            for (int i = 1; i <= acts; i++) {
                x.set(0, 0, i);
            }
            int can = Math.min(acts, 14);
            due.is("acts of " + acts, x.about(12), can);
            for (int i = 1; i <= can; i++) {
                due.is("undo() " + i + " of " + acts, x.undo(), can - i);
                due.is("register(0)", x.register(0), acts - i);
            }
            due.is("one more", x.undo(), -3);
            due.is("register(0)", x.register(0), acts - can);
        }
    }

    private static void undoLate() {
        due.of("promise 17: LATE if there is none");
        SideStep x = new SideStep();
        due.is("of a new object", x.undo(), -3);
        x.watch(0);
        due.is("of one act", x.undo(), 0);
        due.is("of no act any more", x.undo(), -3);
        x.watch(0);
        x.keep(0);
        x.again(0);
        due.is("after again()", x.undo(), -3);
        due.is("watched", x.about(7), 1);
        x.watch(1);
        x.write('C');
        x.code();
        due.is("after code()", x.undo(), -3);
        due.is("watched", x.about(7), 0);
    }

    private static void undoReturns() {
        due.of("promise 17: returns how many acts can still be undone");
        SideStep x = new SideStep();
        for (int i = 0; i < 20; i++) {
            x.watch(i % 8);
        }
        for (int left = 13; left >= 0; left--) {
            due.is("undo()", x.undo(), left);
            due.is("about(12)", x.about(12), left);
        }
        due.is("the first six acts stay", x.about(7), 63);
    }

    private static void undoneIsNotDoneAgain() {
        due.of("promise 17: the latest act that is not undone");
        SideStep x = new SideStep();
        for (int round = 1; round <= 5; round++) {
            for (int i = 0; i < 14; i++) {
                x.set(0, 0, 100 * round + i);
            }
            for (int i = 0; i < 10; i++) {
                x.undo();
            }
            due.is("register(0)", x.register(0), 100 * round + 3);
            due.is("acts", x.about(12), 4);
            x.set(0, 0, -round);
            due.is("undo()", x.undo(), 4);
            due.is("register(0)", x.register(0), 100 * round + 3);
        }
    }

    private static void undoOfEachAct() {
        due.of("promise 17: machine, breakpoints, watched cells, copies, cost and clock are as before it");
        SideStep x = Due.coded("Ci05o0s07c06hk3o3bh");
        String[] before = new String[14];
        for (int i = 0; i < 14; i++) {
            before[i] = Due.kept(x);
            act(x, i);
            due.isTrue("act " + i + " changes something", !before[i].equals(Due.kept(x)));
        }
        due.is("acts", x.about(12), 14);
        for (int i = 13; i >= 0; i--) {
            due.is("undo()", x.undo(), i);
            due.isTrue("act " + i + " is undone", before[i].equals(Due.kept(x)));
        }
    }

    private static void act(SideStep x, int i) {
        switch (i) {
            case 0: x.smash(0, -9, 0, 0, 0); break;
            case 1: x.smash(8, 0, 1, 5, 0); break;
            case 2: x.smash(1, 3, 0, 1, 1); break;
            case 3: x.watch(7); break;
            case 4: x.plan(0); break;
            case 5: x.plan(3); break;
            case 6: x.plan(0); break;
            case 7: x.set(0, 3, MIN); break;
            case 8: x.set(1, 0, MAX); break;
            case 9: x.smash(6, -9, 0, 0, 0); break;
            case 10: x.plan(3); break;
            case 11: x.lift(1); break;
            case 12: x.set(2, 0, 8); break;
            default: x.plan(3); break;
        }
    }

    private static void undoOfTheStack() {
        due.of("promise 17: the places on the stack are as before it, from none to eight");
        SideStep x = Due.coded("Cc01c02c03c04c05c06c07c08h");
        Due.steps(x, 8);
        // Four places go by undo(), and four others come.
        for (int i = 0; i < 4; i++) {
            x.undo();
        }
        for (int i = 0; i < 4; i++) {
            x.set(2, 0, 7 - i);
            x.plan(0);
        }
        int[] others = {1, 2, 3, 4, 8, 7, 6, 5};
        for (int i = 0; i < 8; i++) {
            due.is("stack(" + i + ")", x.stack(i), others[i]);
        }
        for (int depth = 7; depth >= 0; depth--) {
            x.undo();
            if (depth >= 4) {
                x.undo();
            }
            for (int i = 0; i <= 8; i++) {
                due.is("stack(" + i + ") of " + depth, x.stack(i), i < depth ? others[i] : -9);
            }
        }
    }

    private static void undoOfBreakpoints() {
        due.of("promise 17: the breakpoints are as before it, at the first and the last place");
        for (int place : new int[] {0, 15}) {
            SideStep x = Due.coded("C" + "j+0".repeat(16));
            x.set(2, 0, place);
            x.smash(place, -9, 0, 0, 0);
            due.is("a hit", x.plan(0), 1);
            x.smash(place, 0, 0, 9, 8);
            due.is("ignored", x.plan(0), 0);
            x.smash(place, 3, 2, 1, 5);
            due.brokenIs(x, place, 3, 3, 2, 1, 5, 1);
            x.undo();
            due.brokenIs(x, place, 2, 0, 0, 9, 7, 1);
            x.undo();
            due.brokenIs(x, place, 2, 0, 0, 9, 8, 1);
            x.undo();
            due.brokenIs(x, place, 1, -9, -9, -9, 0, 1);
            x.lift(place);
            due.brokenIs(x, place, 0, -9, -9, -9, 0, 0);
            x.undo();
            due.brokenIs(x, place, 1, -9, -9, -9, 0, 1);
            x.undo();
            due.brokenIs(x, place, 1, -9, -9, -9, 0, 0);
            x.undo();
            due.brokenIs(x, place, 0, -9, -9, -9, 0, 0);
        }
    }

    private static void undoLeavesTheOthers() {
        due.of("promise 17: the text, the sights, the seed and the slots stay");
        SideStep x = Due.coded("Ch");
        x.watch(0);
        x.keep(0);
        x.watch(1);
        x.write('h');
        x.see(99, 0);
        x.seed(MIN);
        x.keep(1);
        due.is("undo()", x.undo(), 1);
        due.is("undo()", x.undo(), 0);
        due.is("length", x.about(14), 3);
        due.is("sights", x.about(13), 1);
        due.is("seed", x.seed(0), MIN);
        x.again(0);
        due.is("slot 0", x.about(7), 1);
        x.again(1);
        due.is("slot 1", x.about(7), 3);
    }
}
