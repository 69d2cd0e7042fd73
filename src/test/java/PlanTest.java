/** Promise 12: plan, with the machine, the steps and the reasons. */
public final class PlanTest {
    private static final Due due = new Due();

    public static void main(String[] args) {
        errors();
        plans();
        jumps();
        faults();
        halt();
        watch();
        breakpoints();
        ignoreCounts();
        conditions();
        orderOfReasons();
        limit();
        cost();
        due.end();
    }

    private static void errors() {
        SideStep x = Due.coded("Ch");
        due.is("plan(-1)", x.plan(-1), -2);
        due.is("plan(4)", x.plan(4), -2);
        due.is("plan(MAX)", x.plan(Integer.MAX_VALUE), -2);
        due.is("plan(MIN)", x.plan(Integer.MIN_VALUE), -2);
        due.is("plan(2) with an empty stack", x.plan(2), -3);
        due.is("an error is no act", x.about(12), 0);
        due.is("an error makes no step", x.about(10), 0);
        due.is("plan(3)", x.plan(3), 3);
        due.is("plan(2) after a halt with an empty stack", x.plan(2), -3);
        due.is("a halted plan is an act", x.plan(3), 3);
        due.is("acts", x.about(12), 2);
    }

    private static void plans() {
        String text = "Cc03o1hi01c07o0bi17b";
        SideStep x = Due.coded(text);
        due.is("ONE", x.plan(0), 0);
        due.is("in the call", x.about(1), 3);
        due.is("OVER steps", x.plan(1), 0);
        due.is("after SET", x.about(1), 4);
        due.is("OVER the inner call", x.plan(1), 0);
        due.is("after the inner call", x.about(1), 5);
        due.is("steps", x.about(10), 5);
        due.is("FINISH", x.plan(2), 0);
        due.is("back", x.about(1), 1);
        due.is("stack", x.about(2), 0);
        due.is("RUN", x.plan(3), 3);
        due.is("put out", x.about(5), 31 + 7);
        SideStep y = Due.coded(text);
        due.is("OVER the outer call", y.plan(1), 0);
        due.is("after the outer call", y.about(1), 1);
        due.is("steps", y.about(10), 7);
        SideStep z = Due.coded("Cc02hb");
        z.plan(0);
        due.is("OVER a RETURN", z.plan(1), 0);
        due.is("after RETURN", z.about(1), 1);
        SideStep w = Due.coded("Cc02hc04bb");
        w.plan(0);
        w.plan(0);
        due.is("FINISH the inner call alone", w.plan(2), 0);
        due.is("in the outer call", w.about(1), 3);
    }

    private static void jumps() {
        SideStep x = Due.coded("Cj+3hhz0+2hz1-2h");
        x.plan(0);
        due.is("JUMP", x.about(1), 3);
        x.plan(0);
        due.is("ZERO if it is 0", x.about(1), 5);
        x.set(0, 1, -4);
        x.plan(0);
        due.is("ZERO if it is not 0", x.about(1), 6);
        x.set(2, 0, 5);
        x.set(0, 1, 0);
        x.plan(0);
        due.is("ZERO back", x.about(1), 3);
        SideStep y = Due.coded("Ck2k3o3h");
        y.smash(1, -9, 0, 0, 0);
        y.plan(3);
        due.is("LINK", y.register(2), 1);
        y.plan(3);
        due.is("LINK from a copy", y.register(3), 2);
        due.is("PUT", y.about(5), 2);
    }

    private static void faults() {
        SideStep x = Due.coded("Cbc01");
        due.is("RETURN with an empty stack", x.plan(0), 4);
        due.is("clock", x.about(10), 0);
        due.is("cost", x.about(9), 0);
        due.is("counter", x.about(1), 0);
        x.smash(0, -9, 0, 0, 0);
        x.smash(1, -9, 0, 0, 0);
        due.is("a fault at an armed place", x.plan(3), 4);
        due.is("costs nothing", x.about(9), 0);
        due.is("keeps no copy", x.about(8), 0);
        due.is("is an act", x.about(12), 4);
        x.set(2, 0, 1);
        x.lift(1);
        due.is("CALL without end", x.plan(3), 4);
        due.is("stack", x.about(2), 8);
        due.is("clock", x.about(10), 8);
        due.is("counter", x.about(1), 1);
        due.is("counter past the end", Due.coded("Ci00").plan(3), 4);
        due.is("after a step past the end ONE is done", Due.coded("Ci00").plan(0), 0);
    }

    private static void halt() {
        SideStep x = Due.coded("Chi01h");
        due.is("ONE onto HALT", x.plan(0), 3);
        due.is("clock", x.about(10), 1);
        due.is("halted", x.about(3), 1);
        for (int plan = 0; plan <= 3; plan++) {
            due.is("plan after a halt", x.plan(plan), plan == 2 ? -3 : 3);
        }
        due.is("no step", x.about(10), 1);
        x.set(0, 0, 5);
        x.set(1, 0, 5);
        due.is("still halted", x.plan(0), 3);
        due.is("no step", x.about(10), 1);
        x.set(2, 0, 0);
        due.is("goes on", x.about(3), 0);
        due.is("halts again", x.plan(1), 3);
        due.is("a step", x.about(10), 2);
        SideStep y = Due.coded("Cc01h");
        due.is("halt in a call", y.plan(1), 3);
        due.is("FINISH after a halt in a call", y.plan(2), 3);
    }

    private static void watch() {
        SideStep x = Due.coded("Ci05s03s03s04i06s03h");
        x.watch(3);
        due.is("watch stops", x.plan(3), 2);
        due.is("after SAVE", x.about(1), 2);
        due.is("an equal value and an unwatched cell are no reason", x.plan(3), 2);
        due.is("after the third SAVE to it", x.about(1), 6);
        SideStep y = Due.coded("Ci05s03h");
        y.watch(3);
        y.watch(3);
        due.is("not watched any more", y.plan(3), 3);
    }

    private static void breakpoints() {
        SideStep x = Due.coded("Co0o1o2j-3h");
        x.smash(0, -9, 0, 0, 0);
        x.smash(2, -9, 0, 0, 0);
        due.is("not where it begins", x.plan(3), 1);
        due.is("stopped", x.about(1), 2);
        due.is("hits", x.broken(2, 5), 1);
        due.is("hits of the beginning", x.broken(0, 5), 0);
        due.is("goes on from a breakpoint", x.plan(3), 1);
        due.is("stopped", x.about(1), 0);
        due.is("ONE to a place that is not armed", x.plan(0), 0);
        due.is("ONE to a breakpoint", x.plan(0), 1);
        due.is("hits", x.broken(2, 5), 2);
        x.lift(0);
        x.lift(2);
        due.is("no breakpoint any more", x.plan(3), 5);
        SideStep y = Due.coded("Cj+0");
        y.smash(0, -9, 0, 0, 0);
        due.is("a place that follows itself", y.plan(3), 1);
        due.is("one step", y.about(10), 1);
        SideStep z = Due.coded("Ci01h");
        z.smash(1, -9, 0, 0, 0);
        due.is("at HALT", z.plan(3), 1);
        due.is("halts", z.plan(3), 3);
        due.is("hits of the halt", z.broken(1, 5), 1);
    }

    private static void ignoreCounts() {
        SideStep x = Due.coded("Cj+0");
        x.smash(0, -9, 0, 0, 3);
        due.is("RUN", x.plan(3), 1);
        due.is("steps", x.about(10), 4);
        due.is("ignore count", x.broken(0, 4), 0);
        due.is("hits", x.broken(0, 5), 1);
        x.smash(0, -9, 0, 0, 1);
        due.is("ONE is done where it is ignored", x.plan(0), 0);
        due.is("ignore count", x.broken(0, 4), 0);
        due.is("hits", x.broken(0, 5), 1);
        SideStep y = Due.coded("C+01o0j-2");
        y.set(0, 1, 1);
        y.smash(1, 0, 2, 3, 2);
        due.is("the condition comes before the ignore count", y.plan(3), 1);
        due.is("register(0)", y.register(0), 6);
    }

    private static void conditions() {
        int[][] stops = {{1, 0, 0}, {0, 1, 0}, {0, 0, 1}};
        for (int how = 0; how <= 2; how++) {
            for (int value = 4; value <= 6; value++) {
                SideStep x = Due.coded("Ci00h");
                x.set(0, 3, value);
                x.smash(1, 3, how, 5, 0);
                due.is("how " + how + " of " + value, x.plan(0), stops[how][value - 4]);
            }
        }
        SideStep x = Due.coded("Ci29h");
        x.smash(1, 2, 1, 9, 0);
        due.is("the condition is of the time after the step", x.plan(0), 1);
        SideStep y = Due.coded("Ci00h");
        y.set(0, 1, -1);
        y.smash(1, 1, 0, 0, 0);
        due.is("a negative register is less than 0", y.plan(0), 1);
    }

    private static void orderOfReasons() {
        SideStep x = Due.coded("Ci01s00s01h");
        x.watch(0);
        x.smash(2, -9, 0, 0, 1);
        due.is("watch before breakpoint", x.plan(3), 2);
        due.is("the ignore count stays", x.broken(2, 4), 1);
        due.is("the hits stay", x.broken(2, 5), 0);
        SideStep y = Due.coded("Ch");
        y.smash(0, -9, 0, 0, 0);
        due.is("halt before breakpoint", y.plan(0), 3);
        due.is("the hits stay", y.broken(0, 5), 0);
        SideStep z = Due.coded("Cc02hi00b");
        z.smash(1, -9, 0, 0, 0);
        due.is("breakpoint before done", z.plan(1), 1);
        SideStep w = Due.coded("Ci01s00h");
        w.plan(0);
        w.watch(0);
        due.is("watch before done", w.plan(0), 2);
    }

    private static void limit() {
        SideStep x = Due.coded("Cj+0");
        due.is("limit", x.plan(3), 5);
        due.is("steps", x.about(10), 99);
        due.is("cost", x.about(9), 99);
        SideStep y = Due.coded("C" + "i00".repeat(8) + "j-8h");
        y.smash(0, -9, 0, 0, 9);
        due.is("nine rounds are ignored", y.plan(3), 1);
        due.is("ten rounds of nine steps", y.about(10), 90);
        SideStep z = Due.coded("Cj+1j-1");
        z.smash(1, 0, 1, 1, 0);
        due.is("a condition that is never true", z.plan(3), 5);
        due.is("OVER a call without an end", Due.coded("Cc01j+0").plan(1), 5);
        limitAndOthers();
    }

    /** A counter in register 0 makes something happen exactly at the 99th step, or at the 100th. */
    private static void limitAndOthers() {
        // Three steps a round: 33 rounds are 99 steps, and end at place 0.
        SideStep x = Due.coded("C+01o2j-2");
        x.set(0, 1, 1);
        x.set(0, 0, -24);
        x.smash(0, 0, 1, 9, 0);
        due.is("breakpoint at the 99th step", x.plan(3), 1);
        due.is("steps", x.about(10), 99);
        x.set(0, 0, -25);
        due.is("breakpoint after the 102nd step", x.plan(3), 5);
        due.is("steps", x.about(10), 198);
        x.smash(0, 0, 1, 8, 5);
        x.set(0, 0, -25);
        due.is("ignored at the 99th step", x.plan(3), 5);
        due.is("ignore count", x.broken(0, 4), 4);
        // CALL, then 97 steps, then RETURN: done at the 99th step.
        SideStep y = Due.coded("Cc02h+01z0+2j-2b");
        y.set(0, 1, 1);
        y.set(0, 0, -32);
        due.is("OVER", y.plan(1), 0);
        due.is("steps", y.about(10), 97);
        y.set(2, 0, 0);
        y.set(0, 0, -33);
        due.is("OVER that is too long", y.plan(1), 5);
        due.is("steps", y.about(10), 97 + 99);
        SideStep z = Due.coded("Cc03i00h+01z0+2j-2b");
        z.set(0, 1, 1);
        z.set(0, 0, -32);
        z.set(2, 0, 0);
        z.plan(0);
        due.is("FINISH", z.plan(2), 0);
        due.is("steps", z.about(10), 97);
        SideStep w = Due.coded("Ci00i00c04h+01z0+2j-2b");
        w.set(0, 1, 1);
        w.set(2, 0, 2);
        w.plan(0);
        w.set(0, 0, -33);
        due.is("FINISH at the 99th step", w.plan(2), 0);
        due.is("steps", w.about(10), 1 + 99);
    }

    private static void cost() {
        SideStep x = Due.coded("Ci01j+0");
        x.watch(0);
        x.watch(1);
        x.plan(0);
        due.is("two watched cells", x.about(9), 1);
        x.watch(2);
        x.plan(0);
        due.is("three watched cells", x.about(9), 11);
        x.smash(1, -9, 0, 0, 0);
        x.plan(0);
        due.is("an armed place", x.about(9), 24);
        x.smash(1, 0, 1, 9, 0);
        x.watch(2);
        x.plan(0);
        due.is("an armed place that does not apply", x.about(9), 28);
        due.is("clock", x.about(10), 4);
    }
}
