/** The boundary cases of STEPS AND PLANS and of promise 12, a test for each sentence. */
public final class EdgePlanTest {
    private static final Due due = new Due();

    public static void main(String[] args) {
        planRange();
        finishLate();
        haltedWhenThePlanBegins();
        costOfWatchedCells();
        costOfArmedPlaces();
        costOfTheStepThatStops();
        copyOfAnEqualInstruction();
        fourthCopy();
        copyHasTheSameEffect();
        faultComesFirst();
        haltBeforeBreakpoint();
        haltBeforeDone();
        watchBeforeBreakpoint();
        watchBeforeDone();
        breakpointBeforeDone();
        watchDiffers();
        breakpointNotWhereThePlanBegins();
        breakpointWithCounterOutside();
        conditionAfterTheStep();
        limitAlone();
        faultAndLimit();
        haltAndLimit();
        watchAndLimit();
        breakpointAndLimit();
        ignoredAndLimit();
        doneAndLimit();
        oneIsDone();
        overIsDone();
        finishIsDone();
        runIsNeverDone();
        fiveHundredAndTwelveCalls();
        due.end();
    }

    /** A program whose instructions behind place 2 begin after 98 steps: three a round, two in the last. */
    private static SideStep after98Steps(String rest) {
        SideStep x = Due.coded("C+01z0+2j-2" + rest);
        x.set(0, 0, -33);
        x.set(0, 1, 1);
        return x;
    }

    private static void planRange() {
        due.of("promise 12: BAD if plan is out of range");
        SideStep x = Due.coded("Cc00");
        for (int plan : new int[] {-1, 4, -9, Integer.MIN_VALUE, Integer.MAX_VALUE}) {
            due.is("plan(" + plan + ")", x.plan(plan), -2);
        }
        due.is("no step", x.about(10), 0);
        due.is("no act", x.about(12), 0);
        due.is("plan(0)", x.plan(0), 0);
        due.is("plan(3)", x.plan(3), 4);
    }

    private static void finishLate() {
        due.of("promise 12: LATE if it is FINISH and the stack is empty");
        SideStep x = Due.coded("Cc01b");
        due.is("with none", x.plan(2), -3);
        due.is("no step", x.about(10), 0);
        due.is("no act", x.about(12), 0);
        x.plan(0);
        due.is("with one", x.plan(2), 0);
        due.is("with none again", x.plan(2), -3);
        for (int plan : new int[] {0, 1, 3}) {
            due.is("plan(" + plan + ") with none is no error", Due.coded("Ch").plan(plan), 3);
        }
        SideStep y = Due.coded("Cc00b");
        Due.steps(y, 8);
        y.set(2, 0, 1);
        due.is("with eight", y.plan(2), 0);
        due.is("seven are left", y.about(2), 7);
    }

    private static void haltedWhenThePlanBegins() {
        due.of("if the machine has halted when the plan begins, it stops at once with reason 3");
        SideStep x = Due.coded("Cc01h");
        x.smash(1, -9, 0, 0, 0);
        x.plan(3);
        due.is("halts", x.plan(0), 3);
        String before = Due.kept(x);
        for (int plan = 0; plan <= 3; plan++) {
            due.is("plan(" + plan + ")", x.plan(plan), 3);
        }
        due.isTrue("without a step", before.equals(Due.kept(x)));
        due.is("these are acts", x.about(12), 7);
        SideStep y = Due.coded("Ch");
        y.plan(0);
        due.is("FINISH with an empty stack", y.plan(2), -3);
    }

    private static void costOfWatchedCells() {
        due.of("the cost by 1, or by 10 if more than two cells are watched");
        for (int many = 0; many <= 8; many++) {
            SideStep x = Due.coded("Cj+0");
            for (int m = 0; m < many; m++) {
                x.watch(7 - m);
            }
            x.plan(0);
            due.is(many + " watched cells", x.about(9), many > 2 ? 10 : 1);
            due.is("clock", x.about(10), 1);
        }
        SideStep y = Due.coded("Cj+0");
        for (int m : new int[] {0, 3, 7, 7}) {
            y.watch(m);
        }
        y.plan(0);
        due.is("a third that is not watched any more", y.about(9), 1);
    }

    private static void costOfArmedPlaces() {
        due.of("if the place is armed, the cost increases by 3 more");
        for (int many = 0; many <= 3; many++) {
            SideStep x = Due.coded("Ci00h");
            for (int i = 0; i < many; i++) {
                x.smash(0, 0, 2, 9, 9);
            }
            x.smash(1, 0, 2, 9, 0);
            x.plan(0);
            due.is(many + " breakpoints that do not apply", x.about(9), many > 0 ? 4 : 1);
            x.watch(0);
            x.watch(1);
            x.watch(2);
            x.plan(0);
            due.is("HALT with three watched cells", x.about(9), (many > 0 ? 4 : 1) + 13);
        }
        SideStep y = Due.coded("Ci00h");
        y.smash(0, -9, 0, 0, 0);
        y.lift(0);
        y.plan(0);
        due.is("not armed any more", y.about(9), 1);
        due.is("no copy", y.about(8), 0);
    }

    private static void costOfTheStepThatStops() {
        due.of("if it does not fault, the clock increases by 1, and the cost");
        SideStep x = Due.coded("Cs00b");
        x.set(0, 0, 1);
        x.watch(0);
        x.smash(1, -9, 0, 0, 0);
        due.is("watch", x.plan(0), 2);
        due.is("clock", x.about(10), 1);
        due.is("cost", x.about(9), 1);
        due.is("fault at an armed place", x.plan(0), 4);
        due.is("clock", x.about(10), 1);
        due.is("cost", x.about(9), 1);
        due.is("copies", x.about(8), 0);
    }

    private static void copyOfAnEqualInstruction() {
        due.of("a copy of it is kept, unless an equal instruction is among the kept copies already");
        SideStep x = Due.coded("Cj+1j+1i00i01j-0j+0h");
        for (int place = 0; place <= 5; place++) {
            x.smash(place, 0, 2, 9, 0);
        }
        Due.steps(x, 2);
        due.is("two equal", x.about(8), 1);
        due.is("copy(0)", x.copy(0), 0);
        Due.steps(x, 2);
        due.is("two different", x.about(8), 3);
        x.set(2, 0, 1);
        x.plan(0);
        due.is("the oldest once more", x.about(8), 3);
        due.is("it stays the oldest", x.copy(0), 0);
        due.is("copy(1)", x.copy(1), 2);
        due.is("copy(2)", x.copy(2), 3);
        for (int place = 0; place <= 5; place++) {
            x.lift(place);
        }
        due.is("copies stay without breakpoints", x.about(8), 3);
        x.plan(0);
        due.is("none is kept of a place that is not armed", x.about(8), 3);
        due.is("copy(0)", x.copy(0), 0);
    }

    private static void fourthCopy() {
        due.of("at most 3 copies are kept: when a fourth would be kept, the oldest one is removed");
        SideStep x = Due.coded("Ci00i01i02i03i04i05h");
        for (int place = 0; place <= 5; place++) {
            x.smash(place, -9, 0, 0, 0);
        }
        Due.steps(x, 3);
        copies(x, 0, 1, 2);
        x.plan(0);
        copies(x, 1, 2, 3);
        x.set(2, 0, 0);
        x.plan(0);
        copies(x, 2, 3, 0);
        x.set(2, 0, 3);
        x.plan(0);
        copies(x, 2, 3, 0);
        Due.steps(x, 2);
        copies(x, 0, 4, 5);
    }

    private static void copies(SideStep x, int... want) {
        due.is("copies", x.about(8), want.length);
        for (int i = 0; i < want.length; i++) {
            due.is("copy(" + i + ")", x.copy(i), want[i]);
        }
        due.is("copy behind the last", x.copy(want.length), -9);
    }

    private static void copyHasTheSameEffect() {
        due.of("the instruction is executed from a copy (with the same effect as at its place)");
        String text = "Ci05+00-10l21s03j+1z2+2hc10k3o3hz3+9b";
        SideStep x = Due.coded(text);
        SideStep y = Due.coded(text);
        for (int place = 0; place < 14; place++) {
            y.smash(place, -9, 0, 0, 0);
        }
        for (int step = 0; step < 14; step++) {
            x.plan(0);
            y.plan(0);
            for (int what = 1; what <= 5; what++) {
                due.is("about(" + what + ") after step " + step, y.about(what), x.about(what));
            }
            for (int i = 0; i < 8; i++) {
                due.is("register(" + i + ")", y.register(i), x.register(i));
                due.is("cell(" + i + ")", y.cell(i), x.cell(i));
                due.is("stack(" + i + ")", y.stack(i), x.stack(i));
            }
        }
        SideStep z = Due.coded("C" + "h".repeat(15) + "k0");
        z.smash(15, -9, 0, 0, 0);
        z.set(2, 0, 15);
        due.is("LINK at the last place", z.plan(0), 0);
        due.is("register(0)", z.register(0), 16);
    }

    private static void faultComesFirst() {
        due.of("4 (fault) is examined first");
        SideStep x = Due.coded("Cb");
        x.smash(0, -9, 0, 0, 5);
        for (int plan : new int[] {0, 1, 3}) {
            due.is("plan(" + plan + ")", x.plan(plan), 4);
        }
        due.is("the ignore count stays", x.broken(0, 4), 5);
        x.smash(0, -9, 0, 0, 0);
        due.is("plan(3)", x.plan(3), 4);
        due.is("the hits stay", x.broken(0, 5), 0);
        SideStep y = Due.coded("Cc00");
        Due.steps(y, 8);
        for (int plan = 0; plan <= 3; plan++) {
            due.is("CALL with 8 places, plan(" + plan + ")", y.plan(plan), 4);
        }
    }

    private static void haltBeforeBreakpoint() {
        due.of("3 (halt) is examined before 1 (breakpoint)");
        for (int by : new int[] {0, 9}) {
            SideStep x = Due.coded("Ch");
            x.smash(0, -9, 0, 0, by);
            due.is("plan(3)", x.plan(3), 3);
            due.is("the hits stay", x.broken(0, 5), 0);
            due.is("the ignore count stays", x.broken(0, 4), by);
            due.is("a copy of HALT is kept", x.copy(0), 0);
        }
    }

    private static void haltBeforeDone() {
        due.of("3 (halt) is examined before 0 (done)");
        due.is("ONE", Due.coded("Ch").plan(0), 3);
        due.is("OVER", Due.coded("Ch").plan(1), 3);
        SideStep x = Due.coded("Cc01h");
        x.plan(0);
        due.is("FINISH", x.plan(2), 3);
    }

    private static void watchBeforeBreakpoint() {
        due.of("2 (watch) is examined before 1 (breakpoint)");
        for (int by : new int[] {0, 9}) {
            SideStep x = Due.coded("Cs07h");
            x.set(0, 0, -1);
            x.watch(7);
            x.smash(1, -9, 0, 0, by);
            due.is("plan(3)", x.plan(3), 2);
            due.is("the hits stay", x.broken(1, 5), 0);
            due.is("the ignore count stays", x.broken(1, 4), by);
            due.is("the place of the breakpoint", x.about(1), 1);
        }
    }

    private static void watchBeforeDone() {
        due.of("2 (watch) is examined before 0 (done)");
        for (int plan = 0; plan <= 1; plan++) {
            SideStep x = Due.coded("Cs00h");
            x.set(0, 0, 1);
            x.watch(0);
            due.is("plan(" + plan + ")", x.plan(plan), 2);
        }
    }

    private static void breakpointBeforeDone() {
        due.of("1 (breakpoint) is examined before 0 (done)");
        for (int plan = 0; plan <= 1; plan++) {
            SideStep x = Due.coded("Ci00h");
            x.smash(1, -9, 0, 0, 1);
            due.is("ignored, plan(" + plan + ")", x.plan(plan), 0);
            due.is("ignore count", x.broken(1, 4), 0);
            x.set(2, 0, 0);
            due.is("plan(" + plan + ")", x.plan(plan), 1);
            due.is("hits", x.broken(1, 5), 1);
        }
        SideStep y = Due.coded("Cc02hb");
        y.smash(1, -9, 0, 0, 0);
        y.plan(0);
        due.is("FINISH", y.plan(2), 1);
        due.is("stack", y.about(2), 0);
    }

    private static void watchDiffers() {
        due.of("2 (watch): a watched cell differs from its value before the step");
        for (int m : new int[] {0, 7}) {
            SideStep x = Due.coded("Cs0" + m + "s0" + m + "s1" + m + "s0" + (m ^ 1) + "h");
            x.watch(m);
            x.set(0, 0, Integer.MIN_VALUE);
            due.is("another value", x.plan(3), 2);
            due.is("counter", x.about(1), 1);
            due.is("the same value, then another", x.plan(3), 2);
            due.is("counter", x.about(1), 3);
            due.is("a cell that is not watched", x.plan(3), 3);
        }
        SideStep y = Due.coded("Cl00s00h");
        y.watch(0);
        y.set(1, 0, 5);
        due.is("LOAD and SAVE of the same value, after set()", y.plan(3), 3);
    }

    private static void breakpointNotWhereThePlanBegins() {
        due.of("the reasons are examined after each step");
        SideStep x = Due.coded("Ci00j-1h");
        x.smash(0, -9, 0, 0, 0);
        due.is("RUN from a breakpoint", x.plan(3), 1);
        due.is("it came back to it", x.about(10), 2);
        due.is("hits", x.broken(0, 5), 1);
    }

    private static void breakpointWithCounterOutside() {
        due.of("1 (breakpoint): if the place at the program counter is armed");
        for (String text : new String[] {"Cj-1", "Cj-9", "C" + "h".repeat(15) + "j+1", "C" + "h".repeat(15) + "j+9"}) {
            SideStep x = Due.coded(text);
            int size = x.about(0);
            for (int place = 0; place < size; place++) {
                x.smash(place, -9, 0, 0, 0);
            }
            x.set(2, 0, size - 1);
            due.is("ONE of " + text, x.plan(0), 0);
            due.is("the next step", x.plan(0), 4);
            x.set(2, 0, size - 1);
            due.is("RUN of " + text, x.plan(3), 4);
            due.is("clock", x.about(10), 2);
        }
    }

    private static void conditionAfterTheStep() {
        due.of("1 (breakpoint): if the place at the program counter applies, after the step");
        SideStep x = Due.coded("Ci01h");
        x.smash(1, 0, 1, 1, 0);
        due.is("it became true", x.plan(0), 1);
        SideStep y = Due.coded("Ci01h");
        y.smash(1, 0, 1, 0, 0);
        due.is("it became false", y.plan(0), 0);
    }

    private static void limitAlone() {
        due.of("5 (limit): 99 steps were made");
        SideStep x = Due.coded("Cj+0");
        for (int plans = 1; plans <= 3; plans++) {
            due.is("RUN", x.plan(3), 5);
            due.is("steps", x.about(10), 99 * plans);
        }
        SideStep y = Due.coded("Cc01j+0");
        due.is("OVER", y.plan(1), 5);
        due.is("steps", y.about(10), 99);
        due.is("FINISH", y.plan(2), 5);
        due.is("steps", y.about(10), 198);
    }

    private static void faultAndLimit() {
        due.of("4 (fault) is examined before 5 (limit)");
        SideStep x = after98Steps("b");
        due.is("fault in the 99th step", x.plan(3), 4);
        due.is("steps", x.about(10), 98);
        SideStep y = after98Steps("i20b");
        due.is("limit before the 100th", y.plan(3), 5);
        due.is("steps", y.about(10), 99);
        due.is("then it faults", y.plan(3), 4);
    }

    private static void haltAndLimit() {
        due.of("3 (halt) is examined before 5 (limit)");
        SideStep x = after98Steps("h");
        due.is("HALT in the 99th step", x.plan(3), 3);
        due.is("steps", x.about(10), 99);
        SideStep y = after98Steps("i20h");
        due.is("limit before the 100th", y.plan(3), 5);
        due.is("not halted", y.about(3), 0);
        due.is("then it halts", y.plan(3), 3);
        due.is("steps", y.about(10), 100);
    }

    private static void watchAndLimit() {
        due.of("2 (watch) is examined before 5 (limit)");
        SideStep x = after98Steps("s10h");
        x.watch(0);
        due.is("SAVE in the 99th step", x.plan(3), 2);
        due.is("steps", x.about(10), 99);
        SideStep y = after98Steps("i20s10h");
        y.watch(0);
        due.is("limit before the 100th", y.plan(3), 5);
        due.is("cell(0)", y.cell(0), 0);
        due.is("then the cell differs", y.plan(3), 2);
    }

    private static void breakpointAndLimit() {
        due.of("1 (breakpoint) is examined before 5 (limit)");
        SideStep x = after98Steps("i20h");
        x.smash(4, -9, 0, 0, 0);
        due.is("after the 99th step", x.plan(3), 1);
        due.is("steps", x.about(10), 99);
        due.is("hits", x.broken(4, 5), 1);
        SideStep y = after98Steps("i20i21h");
        y.smash(5, -9, 0, 0, 0);
        due.is("limit before the 100th", y.plan(3), 5);
        due.is("hits", y.broken(5, 5), 0);
        due.is("then it stops there", y.plan(3), 1);
    }

    private static void ignoredAndLimit() {
        due.of("an ignored breakpoint is no reason, the limit is");
        SideStep x = after98Steps("i20h");
        x.smash(4, -9, 0, 0, 1);
        due.is("after the 99th step", x.plan(3), 5);
        due.is("ignore count", x.broken(4, 4), 0);
        due.is("hits", x.broken(4, 5), 0);
    }

    private static void doneAndLimit() {
        due.of("0 (done) is examined before 5 (limit)");
        // CALL, two SETs, the loop of 95 steps and RETURN.
        SideStep x = Due.coded("Cc02hi20i20+01z0+2j-2b");
        x.set(0, 0, -32);
        x.set(0, 1, 1);
        due.is("OVER of 99 steps", x.plan(1), 0);
        due.is("steps", x.about(10), 99);
        x.set(2, 0, 0);
        x.set(0, 0, -33);
        due.is("OVER of 102 steps", x.plan(1), 5);
        due.is("steps", x.about(10), 198);
        due.is("stack", x.about(2), 1);
        SideStep y = Due.coded("Cc02hi20i20i20+01z0+2j-2b");
        y.set(0, 0, -32);
        y.set(0, 1, 1);
        due.is("OVER of 100 steps", y.plan(1), 5);
        due.is("counter at RETURN", y.about(1), 8);
        due.is("FINISH of 1 step", y.plan(2), 0);
        due.is("steps", y.about(10), 100);
        SideStep z = Due.coded("Cc03hi20+01z0+2j-2b");
        z.set(0, 1, 1);
        z.plan(0);
        z.set(0, 0, -33);
        due.is("FINISH of 99 steps", z.plan(2), 0);
        z.set(2, 0, 0);
        z.plan(0);
        // One SET more than before.
        z.set(2, 0, 2);
        z.set(0, 0, -33);
        due.is("FINISH of 100 steps", z.plan(2), 5);
    }

    private static void oneIsDone() {
        due.of("0 ONE, done after one step");
        for (String text : new String[] {"Ci00", "Cj+0", "Cj-9", "Cc00", "Cc15", "Cz0+9", "Ck0", "Co0"}) {
            SideStep x = Due.coded(text);
            due.is("ONE of " + text, x.plan(0), 0);
            due.is("steps", x.about(10), 1);
        }
    }

    private static void overIsDone() {
        due.of("1 OVER, done as soon as the stack has at most as many places as when the plan began");
        SideStep x = Due.coded("Ci00c03hc05bb");
        due.is("as many, after one step", x.plan(1), 0);
        due.is("steps", x.about(10), 1);
        due.is("as many, after a call with a call in it", x.plan(1), 0);
        due.is("steps", x.about(10), 5);
        due.is("counter", x.about(1), 2);
        x.set(2, 0, 1);
        x.plan(0);
        x.plan(0);
        due.is("fewer", x.plan(1), 0);
        due.is("stack", x.about(2), 1);
        due.is("fewer", x.plan(1), 0);
        due.is("stack", x.about(2), 0);
        SideStep y = Due.coded("Cc00b");
        Due.steps(y, 7);
        y.plan(0);
        y.set(2, 0, 1);
        due.is("fewer than eight", y.plan(1), 0);
        due.is("stack", y.about(2), 7);
        y.set(2, 0, 0);
        due.is("a call that faults inside", y.plan(1), 4);
        due.is("stack", y.about(2), 8);
    }

    private static void finishIsDone() {
        due.of("2 FINISH, done as soon as it has fewer");
        SideStep x = Due.coded("Cc02hi00c06bo0b");
        x.plan(0);
        due.is("stack", x.about(2), 1);
        due.is("FINISH over an inner call", x.plan(2), 0);
        due.is("counter", x.about(1), 1);
        due.is("steps", x.about(10), 5);
        x.set(2, 0, 0);
        Due.steps(x, 3);
        due.is("two places", x.about(2), 2);
        due.is("FINISH the inner call alone", x.plan(2), 0);
        due.is("one place", x.about(2), 1);
        due.is("counter", x.about(1), 4);
    }

    private static void fiveHundredAndTwelveCalls() {
        due.of("an object is used for at most 512 calls");
        // Wiping, writing and coding are 6 calls, and the two questions at the end the last ones.
        SideStep x = Due.coded("Cj+0");
        x.smash(0, 0, 2, 9, 9);
        for (int m = 0; m < 3; m++) {
            x.watch(m);
        }
        for (int calls = 11; calls <= 510; calls++) {
            due.is("call " + calls, x.plan(3), 5);
        }
        due.is("clock", x.about(10), 500 * 99);
        due.is("cost", x.about(9), 500 * 99 * 13);
    }

    private static void runIsNeverDone() {
        due.of("3 RUN, never done");
        SideStep x = Due.coded("Cc02hi00b");
        x.plan(0);
        due.is("through a RETURN", x.plan(3), 3);
        due.is("counter", x.about(1), 1);
    }
}
