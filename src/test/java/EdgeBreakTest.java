/** The boundary cases of BREAKPOINTS AND WATCHED CELLS and of promises 14 to 16, a test for each sentence. */
public final class EdgeBreakTest {
    private static final int MAX = Integer.MAX_VALUE;
    private static final int MIN = Integer.MIN_VALUE;
    private static final Due due = new Due();

    public static void main(String[] args) {
        numberOfBreakpoints();
        smashPlaces();
        smashRegisters();
        smashHows();
        smashThans();
        smashIgnores();
        smashWithoutCondition();
        smashOrderOfErrors();
        smashReplaces();
        hitsOfSmash();
        ignoreCountUsedUp();
        less();
        equal();
        greater();
        liftPlaces();
        liftLate();
        liftLeavesTheOthers();
        watchRange();
        watchTurns();
        due.end();
    }

    private static void numberOfBreakpoints() {
        due.of("each place has 0 to 3 breakpoints, 0 at the beginning; FULL if the place has 3");
        for (int place : new int[] {0, 15}) {
            SideStep x = Due.coded("C" + "h".repeat(16));
            due.is("broken", x.broken(place, 0), 0);
            for (int many = 1; many <= 3; many++) {
                due.is("smash", x.smash(place, -9, 0, 0, 0), many);
                due.is("broken", x.broken(place, 0), many);
            }
            due.is("the fourth", x.smash(place, 3, 2, 9, 9), -4);
            due.is("broken", x.broken(place, 0), 3);
            due.is("the condition stays", x.broken(place, 1), -9);
            due.is("the ignore count stays", x.broken(place, 4), 0);
            due.is("acts", x.about(12), 3);
            due.is("lift", x.lift(place), 2);
            due.is("smash again", x.smash(place, -9, 0, 0, 0), 3);
            due.is("no other place", x.about(6), 1 << place);
        }
    }

    private static void smashPlaces() {
        due.of("promise 14: UNKNOWN if there is no such place");
        for (int size : new int[] {0, 1, 15, 16}) {
            SideStep x = Due.coded("C" + "h".repeat(size));
            for (int place : new int[] {-1, size, 16, -9, MIN, MAX}) {
                due.is("smash(" + place + ") of " + size, x.smash(place, -9, 0, 0, 0), -1);
            }
            due.is("none is armed", x.about(6), 0);
            due.is("no acts", x.about(12), 0);
            if (size > 0) {
                due.is("smash of the last", x.smash(size - 1, -9, 0, 0, 0), 1);
            }
        }
    }

    /** Adds a breakpoint to a place that has none. */
    private static int smash(int r, int how, int f, int by) {
        return Due.coded("Ch").smash(0, r, how, f, by);
    }

    private static void smashRegisters() {
        due.of("promise 14: r is 0 to 3, or NONE");
        for (int r : new int[] {0, 1, 2, 3, -9}) {
            due.is("r " + r, smash(r, 0, 0, 0), 1);
        }
        for (int r : new int[] {-1, 4, -8, -10, 9, MIN, MAX}) {
            due.is("r " + r, smash(r, 0, 0, 0), -2);
        }
    }

    private static void smashHows() {
        due.of("promise 14: how is 0 to 2");
        for (int how = 0; how <= 2; how++) {
            due.is("how " + how, smash(0, how, 0, 0), 1);
        }
        for (int how : new int[] {-1, 3, -9, MIN, MAX}) {
            due.is("how " + how, smash(0, how, 0, 0), -2);
            due.is("how " + how, smash(3, how, 9, 9), -2);
        }
    }

    private static void smashThans() {
        due.of("promise 14: f is 0 to 9");
        for (int f = 0; f <= 9; f++) {
            due.is("f " + f, smash(0, 0, f, 0), 1);
        }
        for (int f : new int[] {-1, 10, -9, MIN, MAX}) {
            due.is("f " + f, smash(0, 0, f, 0), -2);
            due.is("f " + f, smash(3, 2, f, 9), -2);
        }
    }

    private static void smashIgnores() {
        due.of("promise 14: by is 0 to 9, also without a condition");
        for (int r : new int[] {-9, 0, 3}) {
            for (int by = 0; by <= 9; by++) {
                due.is("by " + by, smash(r, 0, 0, by), 1);
            }
            for (int by : new int[] {-1, 10, -9, MIN, MAX}) {
                due.is("by " + by, smash(r, 0, 0, by), -2);
            }
        }
    }

    private static void smashWithoutCondition() {
        due.of("promise 14: NONE for no condition (then how and f are ignored)");
        for (int wrong : new int[] {-1, 3, 10, -9, MIN, MAX}) {
            SideStep x = Due.coded("Ci00h");
            due.is("how " + wrong, x.smash(1, -9, wrong, 0, 0), 1);
            due.is("f " + wrong, x.smash(1, -9, 0, wrong, 0), 2);
            due.is("both " + wrong, x.smash(1, -9, wrong, wrong, 0), 3);
            for (int what = 1; what <= 3; what++) {
                due.is("broken(1, " + what + ")", x.broken(1, what), -9);
            }
            due.is("it applies", x.plan(0), 1);
        }
    }

    private static void smashOrderOfErrors() {
        due.of("promise 14: UNKNOWN, then BAD, then FULL");
        SideStep x = Due.coded("Ch");
        for (int i = 0; i < 3; i++) {
            x.smash(0, -9, 0, 0, 0);
        }
        due.is("no place, r out of range", x.smash(1, 4, 0, 0, 0), -1);
        due.is("no place, by out of range", x.smash(-1, -9, 0, 0, 10), -1);
        due.is("r out of range, full", x.smash(0, 4, 0, 0, 0), -2);
        due.is("how out of range, full", x.smash(0, 0, 3, 0, 0), -2);
        due.is("f out of range, full", x.smash(0, 0, 0, 10, 0), -2);
        due.is("by out of range, full", x.smash(0, -9, 0, 0, 10), -2);
        due.is("full", x.smash(0, 0, 0, 0, 0), -4);
    }

    private static void smashReplaces() {
        due.of("promise 14: the condition and the ignore count of the place become the given ones");
        SideStep x = Due.coded("Chh");
        x.smash(0, 3, 2, 9, 9);
        x.smash(1, 1, 1, 1, 1);
        x.smash(0, 0, 0, 0, 0);
        due.brokenIs(x, 0, 2, 0, 0, 0, 0, 0);
        due.brokenIs(x, 1, 1, 1, 1, 1, 1, 0);
        x.smash(0, -9, 0, 0, 9);
        due.is("no condition any more", x.broken(0, 1), -9);
        due.is("ignore count", x.broken(0, 4), 9);
    }

    private static void hitsOfSmash() {
        due.of("promise 14: the hits become 0 if the place was not armed, otherwise they stay");
        SideStep x = Due.coded("Cj+0");
        x.smash(0, -9, 0, 0, 0);
        due.is("hits", x.broken(0, 5), 0);
        x.plan(0);
        x.plan(0);
        due.is("hits", x.broken(0, 5), 2);
        x.smash(0, 3, 2, 9, 9);
        due.is("hits of the second", x.broken(0, 5), 2);
        x.smash(0, -9, 0, 0, 0);
        due.is("hits of the third", x.broken(0, 5), 2);
        x.lift(0);
        x.lift(0);
        due.is("hits with one left", x.broken(0, 5), 2);
        x.lift(0);
        x.smash(0, -9, 0, 0, 0);
        due.is("hits anew", x.broken(0, 5), 0);
    }

    private static void ignoreCountUsedUp() {
        due.of("if its ignore count is above 0, it decreases by 1, and this is no reason");
        for (int by = 0; by <= 9; by++) {
            SideStep x = Due.coded("Cj+0");
            x.smash(0, -9, 0, 0, by);
            due.is("RUN", x.plan(3), 1);
            due.is("steps with ignore count " + by, x.about(10), by + 1);
            due.is("ignore count", x.broken(0, 4), 0);
            due.is("hits", x.broken(0, 5), 1);
            due.is("RUN", x.plan(3), 1);
            due.is("it does not come back", x.about(10), by + 2);
        }
        SideStep y = Due.coded("Cj+0");
        y.smash(0, 0, 1, 1, 1);
        due.is("a condition that is not true", y.plan(3), 5);
        due.is("leaves the ignore count", y.broken(0, 4), 1);
    }

    /** Whether a place with the condition stops a plan when register r has a value. */
    private static int stops(int r, int how, int f, int value) {
        SideStep x = Due.coded("Cj+1h");
        x.set(0, r, value);
        x.smash(1, r, how, f, 0);
        return x.plan(0);
    }

    private static void less() {
        due.of("register r is less than f (how is 0)");
        for (int r : new int[] {0, 3}) {
            due.is("-1 < 0", stops(r, 0, 0, -1), 1);
            due.is("0 < 0", stops(r, 0, 0, 0), 0);
            due.is("8 < 9", stops(r, 0, 9, 8), 1);
            due.is("9 < 9", stops(r, 0, 9, 9), 0);
            due.is("10 < 9", stops(r, 0, 9, 10), 0);
            due.is("MIN < 0", stops(r, 0, 0, MIN), 1);
            due.is("MIN < 9", stops(r, 0, 9, MIN), 1);
            due.is("MAX < 9", stops(r, 0, 9, MAX), 0);
        }
    }

    private static void equal() {
        due.of("register r is equal to f (1)");
        for (int r : new int[] {0, 3}) {
            due.is("-1 = 0", stops(r, 1, 0, -1), 0);
            due.is("0 = 0", stops(r, 1, 0, 0), 1);
            due.is("1 = 0", stops(r, 1, 0, 1), 0);
            due.is("8 = 9", stops(r, 1, 9, 8), 0);
            due.is("9 = 9", stops(r, 1, 9, 9), 1);
            due.is("10 = 9", stops(r, 1, 9, 10), 0);
            due.is("MIN = 0", stops(r, 1, 0, MIN), 0);
            due.is("MAX = 9", stops(r, 1, 9, MAX), 0);
        }
    }

    private static void greater() {
        due.of("register r is greater than f (2)");
        for (int r : new int[] {0, 3}) {
            due.is("-1 > 0", stops(r, 2, 0, -1), 0);
            due.is("0 > 0", stops(r, 2, 0, 0), 0);
            due.is("1 > 0", stops(r, 2, 0, 1), 1);
            due.is("9 > 9", stops(r, 2, 9, 9), 0);
            due.is("10 > 9", stops(r, 2, 9, 10), 1);
            due.is("MIN > 0", stops(r, 2, 0, MIN), 0);
            due.is("MIN > 9", stops(r, 2, 9, MIN), 0);
            due.is("MAX > 9", stops(r, 2, 9, MAX), 1);
        }
    }

    private static void liftPlaces() {
        due.of("promise 15: UNKNOWN if there is no such place");
        for (int size : new int[] {0, 1, 15, 16}) {
            SideStep x = Due.coded("C" + "h".repeat(size));
            for (int place : new int[] {-1, size, 16, -9, MIN, MAX}) {
                due.is("lift(" + place + ") of " + size, x.lift(place), -1);
            }
            due.is("no acts", x.about(12), 0);
            if (size > 0) {
                x.smash(size - 1, -9, 0, 0, 0);
                due.is("lift of the last", x.lift(size - 1), 0);
            }
        }
    }

    private static void liftLate() {
        due.of("promise 15: LATE if it has none");
        SideStep x = Due.coded("Chh");
        due.is("lift(0)", x.lift(0), -3);
        x.smash(1, -9, 0, 0, 0);
        due.is("lift(0)", x.lift(0), -3);
        due.is("the other stays", x.broken(1, 0), 1);
        due.is("lift(1)", x.lift(1), 0);
        due.is("lift(1)", x.lift(1), -3);
        due.is("broken", x.broken(1, 0), 0);
        due.is("acts", x.about(12), 2);
    }

    private static void liftLeavesTheOthers() {
        due.of("promise 15: while others are left, the condition, the ignore count and the hits stay");
        SideStep x = Due.coded("Cj+0");
        x.smash(0, -9, 0, 0, 0);
        x.plan(0);
        x.smash(0, 1, 1, 1, 1);
        x.smash(0, 3, 2, 9, 8);
        for (int left = 2; left >= 1; left--) {
            due.is("lift(0)", x.lift(0), left);
            due.brokenIs(x, 0, left, 3, 2, 9, 8, 1);
            due.is("armed", x.about(6), 1);
        }
        due.is("lift(0)", x.lift(0), 0);
        due.is("not armed", x.about(6), 0);
        due.is("it does not stop a plan any more", x.plan(0), 0);
    }

    private static void watchRange() {
        due.of("promise 16: UNKNOWN if there is no such cell");
        SideStep x = new SideStep();
        for (int m : new int[] {-1, 8, 32, 33, -32, MIN, MAX}) {
            due.is("watch(" + m + ")", x.watch(m), -1);
        }
        due.is("none is watched", x.about(7), 0);
        due.is("no acts", x.about(12), 0);
        due.is("watch(0)", x.watch(0), 1);
        due.is("watch(7)", x.watch(7), 1);
        due.is("watched", x.about(7), 129);
    }

    private static void watchTurns() {
        due.of("promise 16: begins to watch a cell, or stops watching it");
        for (int m = 0; m <= 7; m++) {
            SideStep x = Due.coded("Ci01s0" + m + "h");
            due.is("watch", x.watch(m), 1);
            due.is("about(7)", x.about(7), 1 << m);
            due.is("plan(3)", x.plan(3), 2);
            due.is("watch", x.watch(m), 0);
            due.is("about(7)", x.about(7), 0);
            x.set(1, m, 0);
            x.set(2, 0, 0);
            due.is("plan(3)", x.plan(3), 3);
            due.is("watch", x.watch(m), 1);
        }
    }
}
