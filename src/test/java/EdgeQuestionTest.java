/** The boundary cases of FREE RUNS and of promises 18 to 20, a test for each sentence. */
public final class EdgeQuestionTest {
    private static final int MAX = Integer.MAX_VALUE;
    private static final int MIN = Integer.MIN_VALUE;
    private static final Due due = new Due();

    public static void main(String[] args) {
        asidePlaces();
        asideWhats();
        asideJump();
        asideZero();
        asideCall();
        asideReturn();
        asideHaltAndOthers();
        asideOfAHaltedMachine();
        freeRange();
        freeHalt();
        freeFault();
        freeLimit();
        freeHaltedAlready();
        freeWithoutBreakpointsAndWatchedCells();
        freePutsInAll();
        freeWithThePresentStack();
        judgeNumbers();
        judgeRows();
        judgeLeadingZeros();
        judgePosition();
        judgeNotLikeThis();
        judgePlans();
        judgePlanReasons();
        judgeBreakpoints();
        judgeBreakpointWithoutCondition();
        judgeCounter();
        judgeRegisters();
        judgeWatch();
        judgeStack();
        judgePuts();
        judgeChangesNothing();
        due.end();
    }

    private static void asideIs(SideStep x, int place, int... want) {
        for (int what = 0; what <= 3; what++) {
            due.is("aside(" + place + ", " + what + ")", x.aside(place, what), want[what]);
        }
    }

    private static void asidePlaces() {
        due.of("promise 18: UNKNOWN if there is no such place, before BAD");
        for (int size : new int[] {0, 1, 15, 16}) {
            SideStep x = Due.coded("C" + "h".repeat(size));
            for (int place : new int[] {-1, size, 16, 20, -9, MIN, MAX}) {
                for (int what = -1; what <= 4; what++) {
                    due.is("aside(" + place + ", " + what + ") of " + size, x.aside(place, what), -1);
                }
            }
            if (size > 0) {
                due.is("the first place", x.aside(0, 0), 20);
                due.is("the last place", x.aside(size - 1, 0), 20);
            }
        }
    }

    private static void asideWhats() {
        due.of("promise 18: BAD if what is out of range");
        SideStep x = Due.coded("Cbh");
        for (int what : new int[] {-1, 4, -9, MIN, MAX}) {
            due.is("aside(0, " + what + ")", x.aside(0, what), -2);
            due.is("aside(1, " + what + ")", x.aside(1, what), -2);
        }
        asideIs(x, 1, 20, -9, -9, 0);
    }

    private static void asideJump() {
        due.of("promise 18: JUMP from the place 20");
        for (int d = 0; d <= 9; d++) {
            SideStep x = Due.coded("Cj+" + d + "j-" + d);
            asideIs(x, 0, 20 + d, -9, -9, 1);
            asideIs(x, 1, 20 - d, -9, -9, 1);
        }
    }

    private static void asideZero() {
        due.of("promise 18: ZERO from the place 20 with the present registers");
        SideStep x = Due.coded("Cz0+9z0-9z3+9z3-0");
        asideIs(x, 0, 29, -9, -9, 1);
        asideIs(x, 1, 11, -9, -9, 1);
        asideIs(x, 2, 29, -9, -9, 1);
        asideIs(x, 3, 20, -9, -9, 1);
        for (int value : new int[] {1, -1, MIN, MAX}) {
            x.set(0, 0, value);
            asideIs(x, 0, 21, -9, -9, 1);
            asideIs(x, 1, 21, -9, -9, 1);
            asideIs(x, 2, 29, -9, -9, 1);
        }
    }

    private static void asideCall() {
        due.of("promise 18: CALL; NONE if it would fault");
        SideStep x = Due.coded("Cc00c15");
        for (int depth = 0; depth < 8; depth++) {
            asideIs(x, 0, 0, 21, -9, 2);
            asideIs(x, 1, 15, 21, -9, 2);
            x.plan(0);
        }
        due.is("places on the stack", x.about(2), 8);
        asideIs(x, 0, -9, -9, -9, 2);
        asideIs(x, 1, -9, -9, -9, 2);
        x.undo();
        asideIs(x, 1, 15, 21, -9, 2);
    }

    private static void asideReturn() {
        due.of("promise 18: RETURN; NONE if it would fault");
        SideStep x = Due.coded("Cb" + "h".repeat(14) + "c00");
        asideIs(x, 0, -9, -9, -9, 0);
        x.set(2, 0, 15);
        x.plan(0);
        asideIs(x, 0, 16, -9, -9, 0);
        x.plan(0);
        asideIs(x, 0, -9, -9, -9, 0);
        SideStep y = Due.coded("Cc01c02c03c04c05c06c07c08b");
        Due.steps(y, 8);
        asideIs(y, 8, 8, -9, -9, 0);
        y.plan(0);
        asideIs(y, 8, 7, -9, -9, 0);
    }

    private static void asideHaltAndOthers() {
        due.of("promise 18: 20 for HALT; 21 for LINK; 21 for all others");
        SideStep x = Due.coded("Ci39+33-33l37s37k0k3o3h");
        for (int place : new int[] {0, 1, 2, 3, 4, 7}) {
            asideIs(x, place, 21, -9, -9, 1);
        }
        asideIs(x, 5, 21, -9, 21, 5);
        asideIs(x, 6, 21, -9, 21, 5);
        asideIs(x, 8, 20, -9, -9, 0);
    }

    private static void asideOfAHaltedMachine() {
        due.of("promise 18: the instruction of a place, wherever the counter is");
        SideStep x = Due.coded("Chi00j-9");
        x.plan(0);
        asideIs(x, 1, 21, -9, -9, 1);
        x.set(2, 0, 2);
        x.plan(0);
        due.is("counter", x.about(1), -7);
        asideIs(x, 2, 11, -9, -9, 1);
        asideIs(x, 0, 20, -9, -9, 0);
    }

    private static void freeIs(SideStep x, int... want) {
        for (int what = 0; what <= 3; what++) {
            due.is("free(" + what + ")", x.free(what), want[what]);
        }
    }

    private static void freeRange() {
        due.of("promise 19: BAD if what is out of range");
        SideStep x = Due.coded("Ch");
        for (int what : new int[] {-1, 4, -9, MIN, MAX}) {
            due.is("free(" + what + ")", x.free(what), -2);
        }
        freeIs(x, 3, 1, 0, 0);
    }

    /** A program whose instructions behind place 2 begin after 299 steps of a free run. */
    private static SideStep after299Steps(String rest) {
        SideStep x = Due.coded("C+01z0+2j-2" + rest);
        x.set(0, 0, -100);
        x.set(0, 1, 1);
        return x;
    }

    private static void freeHalt() {
        due.of("a free run: a step that halts counts");
        freeIs(Due.coded("Ch"), 3, 1, 0, 0);
        freeIs(after299Steps("h"), 3, 300, 0, 0);
        freeIs(after299Steps("i20h"), 5, 300, 0, 0);
    }

    private static void freeFault() {
        due.of("a free run: one that faults does not count");
        freeIs(new SideStep(), 4, 0, 0, 0);
        freeIs(Due.coded("Cb"), 4, 0, 0, 0);
        freeIs(Due.coded("Cj-1"), 4, 1, 0, 0);
        freeIs(Due.coded("Cc00"), 4, 8, 0, 0);
        freeIs(Due.coded("C" + "i00".repeat(16)), 4, 16, 0, 0);
        freeIs(after299Steps("b"), 4, 299, 0, 0);
        freeIs(after299Steps("i20b"), 5, 300, 0, 0);
        freeIs(after299Steps(""), 4, 299, 0, 0);
        freeIs(after299Steps("i20"), 5, 300, 0, 0);
    }

    private static void freeLimit() {
        due.of("a free run: or 300 steps are done");
        freeIs(Due.coded("Cj+0"), 5, 300, 0, 0);
        freeIs(after299Steps("o1h"), 5, 300, 1, 1);
        freeIs(after299Steps("i20o1h"), 5, 300, 0, 0);
        SideStep x = after299Steps("h");
        x.set(0, 0, -99);
        freeIs(x, 3, 297, 0, 0);
        x.set(0, 0, -101);
        freeIs(x, 5, 300, 0, 0);
    }

    private static void freeHaltedAlready() {
        due.of("a free run: if the machine has halted already, the reason is 3, with 0 steps");
        SideStep x = Due.coded("Ci09o0h");
        x.plan(3);
        freeIs(x, 3, 0, 1, 9);
        x.set(2, 0, 2);
        freeIs(x, 3, 1, 1, 9);
    }

    private static void freeWithoutBreakpointsAndWatchedCells() {
        due.of("a free run: without breakpoints and watched cells");
        SideStep x = Due.coded("Ci09s00o0h");
        for (int place = 0; place < 4; place++) {
            x.smash(place, -9, 0, 0, 0);
        }
        for (int m = 0; m < 8; m++) {
            x.watch(m);
        }
        String before = Due.kept(x);
        freeIs(x, 3, 4, 1, 9);
        due.isTrue("nothing changes", before.equals(Due.kept(x)));
    }

    private static void freePutsInAll() {
        due.of("promise 19: how many numbers were put out in all at its end; their digest then");
        SideStep x = Due.coded("Co0o0h");
        x.set(0, 0, MAX);
        x.plan(0);
        freeIs(x, 3, 2, 2, -32);
        x.plan(3);
        freeIs(x, 3, 0, 2, -32);
        freeIs(Due.coded("Co0j-1"), 5, 300, 150, 0);
    }

    private static void freeWithThePresentStack() {
        due.of("a free run: a copy of the machine, with its stack");
        SideStep x = Due.coded("Cc04ho0hb");
        freeIs(x, 3, 3, 0, 0);
        x.plan(0);
        freeIs(x, 3, 2, 0, 0);
        x.undo();
        x.set(2, 0, 1);
        x.plan(3);
        freeIs(x, 3, 0, 0, 0);
        x.set(2, 0, 4);
        freeIs(x, 4, 0, 0, 0);
        // Eight places, each the one behind another CALL.
        SideStep y = Due.coded("Cc01c02c03c04c05c06c07c09hb");
        Due.steps(y, 8);
        freeIs(y, 3, 2, 0, 0);
        due.is("in a judged plan", y.judge(2, 100308L), -9);
        due.is("and FINISH", y.judge(3, 102308607L), -9);
        due.is("stack(7)", y.stack(7), 8);
    }

    private static void judgeNumbers() {
        due.of("promise 20: n is 1 to 4, otherwise BAD");
        SideStep x = Due.coded("Ch");
        for (int n : new int[] {0, 5, -1, MIN, MAX}) {
            due.is("judge(" + n + ", 0)", x.judge(n, 0), -2);
            due.is("judge(" + n + ", 300)", x.judge(n, 300), -2);
        }
        due.is("judge(1, ..)", x.judge(1, 300L), -9);
        due.is("judge(2, ..)", x.judge(2, 300300L), -9);
        due.is("judge(3, ..)", x.judge(3, 300300300L), -9);
        due.is("judge(4, ..)", x.judge(4, 300300300300L), -9);
    }

    private static void judgeRows() {
        due.of("promise 20: BAD if row is negative or has more digits");
        SideStep x = Due.coded("Ch");
        long limit = 1;
        for (int n = 1; n <= 4; n++) {
            limit *= 1000;
            due.is("judge(" + n + ", -1)", x.judge(n, -1), -2);
            due.is("judge(" + n + ", MIN)", x.judge(n, Long.MIN_VALUE), -2);
            due.is("judge(" + n + ", 0)", x.judge(n, 0), 0);
            due.is("the largest row of " + n, x.judge(n, limit - 1), 0);
            due.is("one more", x.judge(n, limit), -2);
            due.is("judge(" + n + ", MAX)", x.judge(n, Long.MAX_VALUE), -2);
        }
        // Rows whose lower 32 bits would be small enough.
        due.is("judge(1, 2 ^ 32 + 300)", x.judge(1, (1L << 32) + 300), -2);
        due.is("judge(4, 2 ^ 62)", x.judge(4, 1L << 62), -2);
    }

    private static void judgeLeadingZeros() {
        due.of("promise 20: a number with 3 * n digits (leading zeros included)");
        SideStep x = Due.coded("Ch");
        due.is("000 300", x.judge(2, 300), 0);
        due.is("000", x.judge(1, 0), 0);
        due.is("000 000 000 300", x.judge(4, 300), 0);
        due.is("099", x.judge(1, 99), 0);
        due.is("003 000", x.judge(2, 3000), 0);
    }

    private static void judgePosition() {
        due.of("promise 20: the position, from 0, of the first statement that is not true");
        SideStep x = Due.coded("Ch");
        for (int n = 1; n <= 4; n++) {
            for (int wrong = 0; wrong < n; wrong++) {
                long row = 0;
                for (int i = 0; i < n; i++) {
                    row = 1000 * row + (i == wrong ? 301 : 300);
                }
                due.is("judge(" + n + ", " + row + ")", x.judge(n, row), wrong);
            }
        }
        due.is("two wrong ones", x.judge(4, 300301300301L), 1);
    }

    private static void judgeNotLikeThis() {
        due.of("promise 20: the first statement that is not like this");
        SideStep x = Due.coded("C" + "i00".repeat(16));
        for (int statement = 0; statement <= 99; statement++) {
            due.is("judge(1, " + statement + ")", x.judge(1, statement), 0);
        }
        for (int statement = 800; statement <= 999; statement++) {
            due.is("judge(1, " + statement + ")", x.judge(1, statement), 0);
        }
        // The digit in the middle is 0 for the statements 1, 5 and 6.
        for (int middle = 1; middle <= 9; middle++) {
            for (int last = 0; last <= 9; last++) {
                int pair = 10 * middle + last;
                due.is("judge(1, 1" + pair + ")", x.judge(1, 100 + pair), 0);
                due.is("judge(1, 5" + pair + ")", x.judge(1, 500 + pair), 0);
                due.is("judge(1, 6" + pair + ")", x.judge(1, 600 + pair), 0);
            }
        }
    }

    private static void judgePlans() {
        due.of("promise 20: 1 0 p: the plan p (0 to 3) is possible");
        SideStep x = Due.coded("Cc01b");
        due.is("ONE", x.judge(1, 100), -9);
        due.is("OVER", x.judge(1, 101), -9);
        due.is("FINISH with an empty stack", x.judge(1, 102), 0);
        due.is("FINISH with one place", x.judge(2, 100102), -9);
        due.is("FINISH with none any more", x.judge(3, 100102102), 2);
        for (int p = 4; p <= 9; p++) {
            due.is("the plan " + p, x.judge(1, 100 + p), 0);
        }
        SideStep y = Due.coded("Cj+0");
        y.smash(0, -9, 0, 0, 0);
        due.is("RUN", y.judge(4, 103103103103L), -9);
    }

    private static void judgePlanReasons() {
        due.of("promise 20: 1 0 p: and stops with reason 0 or 1");
        SideStep x = Due.coded("Ci01s00h");
        due.is("reason 0", x.judge(1, 100), -9);
        due.is("reason 3", x.judge(1, 103), 0);
        due.is("reason 3 in a step", x.judge(3, 100100100), 2);
        x.smash(1, -9, 0, 0, 0);
        due.is("reason 1", x.judge(1, 103), -9);
        due.is("reason 1 and 3", x.judge(2, 103103), 1);
        x.watch(0);
        due.is("reason 1 and 2", x.judge(2, 103103), 1);
        due.is("reason 4", Due.coded("Cb").judge(1, 100), 0);
        due.is("reason 5", Due.coded("Cj+0").judge(1, 103), 0);
        SideStep y = Due.coded("Ch");
        y.plan(0);
        for (int p = 0; p <= 3; p++) {
            due.is("halted already, plan " + p, y.judge(1, 100 + p), 0);
        }
    }

    private static void judgeBreakpoints() {
        due.of("promise 20: 2 A A: place AA (which must have an instruction and fewer than 3 breakpoints)");
        for (int size : new int[] {0, 1, 10, 15, 16}) {
            SideStep x = Due.coded("C" + "h".repeat(size));
            for (int place = 0; place <= 99; place++) {
                due.is("judge(1, 2" + place + ") of " + size, x.judge(1, 200 + place), place < size ? -9 : 0);
            }
        }
        SideStep y = Due.coded("C" + "h".repeat(16));
        due.is("three are possible", y.judge(3, 215215215L), -9);
        due.is("a fourth is not", y.judge(4, 215215215215L), 3);
        for (int many = 1; many <= 3; many++) {
            y.smash(15, -9, 0, 0, 0);
            due.is("with " + many, y.judge(4, 215215215215L), 3 - many);
        }
        due.is("another place", y.judge(3, 200200200L), -9);
    }

    private static void judgeBreakpointWithoutCondition() {
        due.of("promise 20: 2 A A: a breakpoint without condition, with ignore count 0");
        SideStep x = Due.coded("Cj+0");
        x.smash(0, 0, 1, 1, 9);
        due.is("with a condition", x.judge(1, 103), 0);
        due.is("it has none then", x.judge(2, 200103L), -9);
        SideStep y = Due.coded("Cj+1j+0");
        y.smash(1, -9, 0, 0, 9);
        due.is("ignored: done, not stopped", y.judge(3, 100100301L), -9);
        due.is("stops", y.judge(4, 201103103301L), -9);
        SideStep z = Due.coded("Ci00i00i00i00h");
        due.is("stops at once", z.judge(3, 203103303L), -9);
        due.is("and at another place", z.judge(4, 201203103301L), -9);
    }

    private static void judgeCounter() {
        due.of("promise 20: 3 A A: the program counter is AA");
        SideStep x = Due.coded("C" + "i00".repeat(15) + "j+9");
        for (int place = 0; place <= 15; place++) {
            x.set(2, 0, place);
            due.is("one less", x.judge(1, 299 + place), 0);
            due.is("at " + place, x.judge(1, 300 + place), -9);
            due.is("one more", x.judge(1, 301 + place), 0);
        }
        x.plan(0);
        due.is("outside, above", x.judge(1, 324), -9);
        due.is("not 23", x.judge(1, 323), 0);
        due.is("not 25", x.judge(1, 325), 0);
        due.is("not 99", x.judge(1, 399), 0);
        SideStep y = Due.coded("Cj-9");
        y.plan(0);
        due.is("outside, below, is not 9", y.judge(1, 309), 0);
        due.is("not 0", y.judge(1, 300), 0);
        due.is("not 91", y.judge(1, 391), 0);
    }

    private static void judgeRegisters() {
        due.of("promise 20: 4 r v: register r is v");
        SideStep x = Due.coded("Ch");
        for (int r = 0; r <= 3; r++) {
            for (int value : new int[] {-1, 0, 1, 8, 9, 10, MIN, MAX}) {
                x.set(0, r, value);
                for (int v = 0; v <= 9; v++) {
                    due.is("4 " + r + " " + v + " of " + value, x.judge(1, 400 + 10 * r + v), v == value ? -9 : 0);
                }
            }
            x.set(0, r, 0);
        }
        for (int statement = 440; statement <= 499; statement++) {
            due.is("no such register: " + statement, x.judge(1, statement), 0);
        }
    }

    private static void judgeWatch() {
        due.of("promise 20: 5 0 m: cell m begins or stops to be watched, as by watch()");
        SideStep x = Due.coded("Ci01s07h");
        for (int m = 0; m <= 7; m++) {
            due.is("50" + m, x.judge(1, 500 + m), -9);
        }
        due.is("508", x.judge(1, 508), 0);
        due.is("509", x.judge(1, 509), 0);
        due.is("not watched", x.judge(2, 100100L), -9);
        due.is("watched", x.judge(3, 507100100L), 2);
        due.is("watched twice", x.judge(4, 507507100100L), -9);
        x.watch(7);
        due.is("watched by watch()", x.judge(2, 100100L), 1);
        due.is("and not any more", x.judge(3, 507100100L), -9);
        due.is("about(7)", x.about(7), 128);
    }

    private static void judgeStack() {
        due.of("promise 20: 6 0 v: the stack has v places");
        SideStep x = Due.coded("Cc00");
        for (int depth = 0; depth <= 8; depth++) {
            for (int v = 0; v <= 9; v++) {
                due.is("60" + v + " of " + depth, x.judge(1, 600 + v), v == depth ? -9 : 0);
            }
            x.plan(0);
        }
    }

    private static void judgePuts() {
        due.of("promise 20: 7 v v: vv numbers were put out in all");
        SideStep x = Due.coded("Co0j-1");
        for (int puts = 0; puts <= 101; puts++) {
            if (puts == 0 || puts == 1 || puts == 10 || puts == 98 || puts == 99 || puts >= 100) {
                for (int vv : new int[] {0, 1, 2, 9, 10, 11, 97, 98, 99}) {
                    due.is("7 and " + vv + " of " + puts, x.judge(1, 700 + vv), vv == puts ? -9 : 0);
                }
            }
            Due.steps(x, 2);
        }
    }

    private static void judgeChangesNothing() {
        due.of("promise 20: a question, nothing changes");
        SideStep x = Due.coded("Ci05s03o0c06hk1b");
        x.smash(2, 0, 1, 5, 1);
        x.smash(3, -9, 0, 0, 0);
        x.watch(5);
        x.plan(0);
        String before = Due.picture(x);
        long[] rows = {103103103103L, 203203503100L, 503100100102L, 206103100102L, 200204103800L};
        for (long row : rows) {
            x.judge(4, row);
            due.isTrue("after " + row, before.equals(Due.picture(x)));
        }
    }
}
