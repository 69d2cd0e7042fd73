/** Promises 24 and 25: share and chance. */
public final class ShareTest {
    private static final Due due = new Due();

    public static void main(String[] args) {
        shareErrors();
        chanceErrors();
        oneRow();
        fractions();
        atMost20();
        limitOfAPlan();
        ignoreCountsAndConditions();
        chances();
        due.end();
    }

    private static void share(SideStep x, int place, int upper, int lower) {
        due.is("share(" + place + ", true)", x.share(place, true), upper);
        due.is("share(" + place + ", false)", x.share(place, false), lower);
    }

    private static void chance(SideStep x, int v, int lost, int upper, int lower) {
        due.is("chance(" + v + ", " + lost + ", true)", x.chance(v, lost, true), upper);
        due.is("chance(" + v + ", " + lost + ", false)", x.chance(v, lost, false), lower);
    }

    private static void shareErrors() {
        SideStep x = Due.coded("Ci00i00i00i00i00i00i00h");
        due.is("share(8)", x.share(8, true), -1);
        due.is("share(-1)", x.share(-1, false), -1);
        due.is("share(MAX)", x.share(Integer.MAX_VALUE, false), -1);
        due.is("share(MIN)", x.share(Integer.MIN_VALUE, false), -1);
        due.is("share(0)", x.share(0, true), -3);
        for (int place = 1; place <= 6; place++) {
            x.smash(place, -9, 0, 0, 0);
        }
        share(x, 6, 1, 1);
        due.is("share(0)", x.share(0, false), -3);
        x.smash(7, -9, 0, 0, 0);
        due.is("seven places", x.share(6, true), -3);
        due.is("seven places", x.share(6, false), -3);
        due.is("no place", x.share(8, true), -1);
        x.lift(3);
        share(x, 7, 1, 1);
    }

    private static void chanceErrors() {
        SideStep x = Due.coded("Ci00i00i00i00i00i00i00h");
        int[][] bad = {{-1, 0}, {21, 0}, {0, -1}, {0, 11}, {Integer.MAX_VALUE, 0}, {Integer.MIN_VALUE, 0},
            {0, Integer.MAX_VALUE}, {0, Integer.MIN_VALUE}};
        for (int place = 1; place <= 7; place++) {
            for (int[] b : bad) {
                due.is("chance(" + b[0] + ", " + b[1] + ")", x.chance(b[0], b[1], true), -2);
                due.is("chance(" + b[0] + ", " + b[1] + ")", x.chance(b[0], b[1], false), -2);
            }
            chance(x, 0, 5, 1, 1);
            x.smash(place, -9, 0, 0, 0);
        }
        due.is("seven places", x.chance(0, 0, true), -3);
        due.is("bad before late", x.chance(21, 0, true), -2);
        x.lift(1);
        chance(x, 6, 0, 1, 1);
    }

    private static void oneRow() {
        SideStep x = Due.coded("Ci00i01i02h");
        x.smash(0, -9, 0, 0, 0);
        x.smash(2, -9, 0, 0, 0);
        x.smash(3, -9, 0, 0, 0);
        share(x, 0, 0, 1);
        share(x, 2, 1, 1);
        share(x, 3, 1, 1);
        x.plan(3);
        share(x, 2, 0, 1);
        x.plan(3);
        x.plan(3);
        due.is("halted", x.about(3), 1);
        share(x, 3, 0, 1);
        chance(x, 1, 0, 0, 1);
        SideStep y = Due.coded("Ci01s00i02h");
        y.smash(2, -9, 0, 0, 0);
        y.smash(3, -9, 0, 0, 0);
        y.watch(0);
        share(y, 2, 1, 1);
        share(y, 3, 1, 1);
        SideStep z = Due.coded("Ci00i01b");
        z.smash(2, -9, 0, 0, 0);
        share(z, 2, 1, 1);
    }

    /** A loop without an end: one place stops 20 times, and more places share the 20. */
    private static void fractions() {
        SideStep x = Due.coded("Ci00i00i00j-3");
        x.smash(1, -9, 0, 0, 0);
        share(x, 1, 20, 1);
        x.smash(2, -9, 0, 0, 0);
        share(x, 1, 10, 1);
        x.smash(3, -9, 0, 0, 0);
        share(x, 1, 20, 3);
        share(x, 2, 20, 3);
        share(x, 3, 20, 3);
        x.smash(0, -9, 0, 0, 0);
        share(x, 0, 5, 1);
        x.set(0, 1, 1);
        x.smash(0, 1, 1, 0, 0);
        share(x, 0, 0, 1);
        share(x, 1, 20, 3);
    }

    private static void atMost20() {
        SideStep x = Due.coded("Cj+0");
        x.smash(0, -9, 0, 0, 9);
        share(x, 0, 20, 1);
        chance(x, 20, 0, 1, 1);
        chance(x, 20, 10, 0, 1);
        chance(x, 20, 3, 7, 10);
        // Twenty rounds, and twenty-one; the counter is above 0 in all of them.
        SideStep y = Due.coded("C-01z0+3o0j-3h");
        y.set(0, 1, 1);
        y.smash(2, -9, 0, 0, 0);
        y.set(0, 0, 20);
        share(y, 2, 19, 1);
        y.set(0, 0, 21);
        share(y, 2, 20, 1);
        y.set(0, 0, 22);
        share(y, 2, 20, 1);
    }

    private static void limitOfAPlan() {
        // Three steps a round; the place 0 comes after 3, 6, .. steps, at the 99th when register 0 is 9.
        SideStep x = Due.coded("C+01o2j-2");
        x.set(0, 1, 1);
        x.set(0, 0, -24);
        x.smash(0, 0, 1, 9, 0);
        share(x, 0, 1, 1);
        x.set(0, 0, -25);
        share(x, 0, 0, 1);
        // A stop halfway begins a new plan, with new 99 steps.
        x.smash(2, 0, 1, 0, 0);
        share(x, 0, 1, 2);
        share(x, 2, 3, 2);
        chance(x, 2, 0, 1, 1);
        chance(x, 2, 5, 1, 4);
        chance(x, 1, 5, 1, 2);
        limitToTheStep();
    }

    private static void limitToTheStep() {
        SideStep x = Due.coded("C+01j-1");
        x.set(0, 1, 1);
        x.set(0, 0, -41);
        x.smash(0, 0, 1, 9, 0);
        // Applies after the 100th step.
        share(x, 0, 0, 1);
        x.set(0, 0, -40);
        share(x, 0, 1, 1);
        // Place 1 applies after the 5th step, place 0 after the 104th: 99 steps later.
        SideStep y = Due.coded("C+01+21o3j-3");
        y.set(0, 1, 1);
        y.set(0, 0, -2);
        y.set(0, 2, -26);
        y.smash(1, 0, 1, 0, 0);
        y.smash(0, 2, 1, 0, 0);
        share(y, 1, 3, 2);
        share(y, 0, 1, 2);
        // Place 1 applies after the 4th step, place 2 after the 104th: 100 steps later.
        SideStep z = Due.coded("C+01+21j-2");
        z.set(0, 1, 1);
        z.set(0, 0, -2);
        z.set(0, 2, -35);
        z.smash(1, 0, 1, 0, 0);
        z.smash(2, 2, 1, 0, 0);
        share(z, 1, 1, 1);
        share(z, 2, 0, 1);
    }

    private static void ignoreCountsAndConditions() {
        // Ten rounds with register 0 from 10 to 1.
        SideStep x = Due.coded("C-01z0+3o0j-3h");
        x.set(0, 1, 1);
        x.set(0, 0, 11);
        x.smash(2, -9, 0, 0, 4);
        x.smash(3, 0, 0, 4, 1);
        share(x, 2, 6, 1);
        share(x, 3, 2, 1);
        due.is("ignore count stays", x.broken(2, 4), 4);
        due.is("hits stay", x.broken(2, 5), 0);
        x.plan(3);
        share(x, 2, 5, 1);
        due.is("ignore count is used up", x.broken(2, 4), 0);
    }

    private static void chances() {
        SideStep x = Due.coded("Ci00i01i02h");
        chance(x, 0, 5, 1, 1);
        chance(x, 1, 0, 0, 1);
        x.smash(1, -9, 0, 0, 0);
        x.smash(2, -9, 0, 0, 0);
        x.smash(3, -9, 0, 0, 0);
        chance(x, 3, 1, 729, 1000);
        chance(x, 2, 1, 243, 250);
        chance(x, 1, 1, 999, 1000);
        chance(x, 4, 1, 0, 1);
        chance(x, 3, 0, 1, 1);
        chance(x, 1, 10, 0, 1);
        chance(x, 0, 10, 1, 1);
        chance(x, 3, 10, 0, 1);
        chance(x, 3, 5, 1, 8);
        chance(x, 20, 0, 0, 1);
        // Place 0 is never come to: it does not matter whether it is lost.
        x.smash(0, -9, 0, 0, 0);
        chance(x, 3, 1, 729, 1000);
        SideStep y = Due.coded("Ci00i01i02i03i04i05h");
        for (int place = 1; place <= 6; place++) {
            y.smash(place, -9, 0, 0, 0);
        }
        chance(y, 6, 7, 729, 1000000);
        chance(y, 6, 9, 1, 1000000);
        chance(y, 1, 7, 1000000 - 117649, 1000000);
    }
}
