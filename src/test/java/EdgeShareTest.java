import java.util.ArrayList;
import java.util.List;

/** The boundary cases of promises 24 and 25, a test for each sentence. */
public final class EdgeShareTest {
    private static final int MAX = Integer.MAX_VALUE;
    private static final int MIN = Integer.MIN_VALUE;
    private static final Due due = new Due();

    public static void main(String[] args) {
        sharePlaces();
        shareNotArmed();
        shareOfSeven();
        shareOrderOfErrors();
        shareLowestTerms();
        atMostTwenty();
        otherReasons();
        limitOfEachPlan();
        limitBeginsAnewAfterAStop();
        twentyPlansOfNinetyNineSteps();
        ignoreCounts();
        conditions();
        notWatched();
        haltedAlready();
        counterOutside();
        chanceRange();
        chanceOfSeven();
        chanceOrderOfErrors();
        chanceOfNoArmedPlace();
        chanceOfNothingLost();
        chanceOfAllLost();
        chanceLowestTerms();
        chanceOfAtLeast();
        asManyStopsAsPlans();
        questionsChangeNothing();
        due.end();
    }

    private static void share(SideStep x, int place, int upper, int lower) {
        due.is("share(" + place + ", true)", x.share(place, true), upper);
        due.is("share(" + place + ", false)", x.share(place, false), lower);
    }

    private static void chance(SideStep x, int v, int lost, int upper, int lower) {
        due.is("chance(" + v + ", " + lost + ", true)", x.chance(v, lost, true), upper);
        due.is("chance(" + v + ", " + lost + ", false)", x.chance(v, lost, false), lower);
    }

    /** A row of SETs with a HALT behind it, of which the places from one to another are armed. */
    private static SideStep row(int size, int from, int to) {
        SideStep x = Due.coded("C" + "i00".repeat(size - 1) + "h");
        for (int place = from; place <= to; place++) {
            x.smash(place, -9, 0, 0, 0);
        }
        return x;
    }

    private static void sharePlaces() {
        due.of("promise 24: UNKNOWN if there is no such place");
        for (int size : new int[] {1, 2, 15, 16}) {
            SideStep x = row(size, size - 1, size - 1);
            for (int place : new int[] {-1, size, 16, -9, MIN, MAX}) {
                due.is("share(" + place + ", true)", x.share(place, true), -1);
                due.is("share(" + place + ", false)", x.share(place, false), -1);
            }
            share(x, size - 1, size == 1 ? 0 : 1, 1);
        }
        due.is("no program", new SideStep().share(0, true), -1);
    }

    private static void shareNotArmed() {
        due.of("promise 24: LATE if it is not armed");
        SideStep x = row(16, 1, 1);
        due.is("share(0, true)", x.share(0, true), -3);
        due.is("share(15, false)", x.share(15, false), -3);
        share(x, 1, 1, 1);
        x.lift(1);
        due.is("not any more", x.share(1, true), -3);
    }

    private static void shareOfSeven() {
        due.of("promise 24: LATE if more than 6 places are armed");
        for (int armed = 1; armed <= 6; armed++) {
            SideStep x = row(16, 16 - armed, 15);
            share(x, 15, 1, 1);
            share(x, 16 - armed, 1, 1);
        }
        SideStep x = row(16, 9, 15);
        for (int place = 9; place <= 15; place++) {
            due.is("share(" + place + ", true)", x.share(place, true), -3);
            due.is("share(" + place + ", false)", x.share(place, false), -3);
        }
        for (int i = 0; i < 2; i++) {
            x.smash(9, -9, 0, 0, 0);
        }
        x.lift(9);
        x.lift(9);
        due.is("places are counted, not breakpoints", x.share(9, true), -3);
        x.lift(9);
        share(x, 15, 1, 1);
        SideStep y = row(16, 0, 15);
        due.is("all sixteen", y.share(0, true), -3);
    }

    private static void shareOrderOfErrors() {
        due.of("promise 24: UNKNOWN, then LATE");
        SideStep x = row(15, 1, 7);
        due.is("no place, seven armed", x.share(15, true), -1);
        due.is("not armed, seven armed", x.share(0, true), -3);
        due.is("no place, none armed", Due.coded("C").share(0, false), -1);
    }

    private static void shareLowestTerms() {
        due.of("a fraction in lowest terms; the denominator is positive");
        SideStep x = Due.coded("Ci00i00i00i00i00j-5");
        int[][] parts = {{20, 1}, {10, 1}, {20, 3}, {5, 1}, {4, 1}, {10, 3}};
        for (int place = 0; place < 6; place++) {
            x.smash(place, -9, 0, 0, 0);
            for (int p = 0; p <= place; p++) {
                share(x, p, parts[place][0], parts[place][1]);
            }
        }
        SideStep y = row(3, 0, 0);
        share(y, 0, 0, 1);
    }

    /** A loop that comes to place 2 as often as register 0 says. */
    private static SideStep rounds(int many) {
        SideStep x = Due.coded("C-01z0+3o0j-3h");
        x.set(0, 1, 1);
        x.set(0, 0, many + 1);
        return x;
    }

    private static void atMostTwenty() {
        due.of("promise 24: its stops with reason 1 are counted, at most 20");
        int[][] stops = {{0, 0}, {1, 1}, {19, 19}, {20, 20}, {21, 20}, {30, 20}};
        for (int[] both : stops) {
            SideStep x = rounds(both[0]);
            x.smash(2, -9, 0, 0, 0);
            share(x, 2, both[1], 1);
            chance(x, both[1], 0, 1, 1);
            if (both[1] < 20) {
                chance(x, both[1] + 1, 0, 0, 1);
            }
        }
        // 19 and 2 stops are 20 together: the places come in either sequence.
        SideStep y = rounds(19);
        y.smash(2, -9, 0, 0, 0);
        y.smash(3, 0, 0, 3, 0);
        share(y, 2, 37, 2);
        share(y, 3, 3, 2);
        SideStep z = rounds(18);
        z.smash(2, -9, 0, 0, 0);
        z.smash(3, 0, 0, 3, 0);
        share(z, 2, 18, 1);
        share(z, 3, 2, 1);
    }

    private static void otherReasons() {
        due.of("promise 24: until it stops for another reason than 1");
        SideStep halt = Due.coded("Ci00i00h");
        halt.smash(1, -9, 0, 0, 0);
        halt.smash(2, -9, 0, 0, 0);
        share(halt, 1, 1, 1);
        share(halt, 2, 1, 1);
        SideStep fault = Due.coded("Ci00i00b");
        fault.smash(1, -9, 0, 0, 0);
        fault.smash(2, -9, 0, 0, 0);
        share(fault, 1, 1, 1);
        share(fault, 2, 1, 1);
        SideStep calls = Due.coded("Cc00");
        calls.smash(0, -9, 0, 0, 0);
        share(calls, 0, 8, 1);
        SideStep end = Due.coded("C" + "i00".repeat(16));
        end.smash(15, -9, 0, 0, 0);
        share(end, 15, 1, 1);
        SideStep limit = Due.coded("Cj+0h");
        limit.smash(1, -9, 0, 0, 0);
        share(limit, 1, 0, 1);
    }

    private static void limitOfEachPlan() {
        due.of("promise 24: the plan RUN stops with reason 5 after 99 steps");
        // The loop takes 98 steps; the place behind the SETs comes 1 or 2 steps later.
        for (int sets = 1; sets <= 2; sets++) {
            SideStep x = Due.coded("C+01z0+2j-2" + "i20".repeat(sets) + "h");
            x.set(0, 0, -33);
            x.set(0, 1, 1);
            x.smash(3 + sets, -9, 0, 0, 0);
            share(x, 3 + sets, sets == 1 ? 1 : 0, 1);
        }
    }

    private static void limitBeginsAnewAfterAStop() {
        due.of("promise 24: the plan RUN is performed again and again");
        // Place 1 comes after a step; place 5 comes 99 steps later, and place 6 100 steps later.
        SideStep x = Due.coded("Ci20i20+01z0+2j-2i20h");
        x.set(0, 0, -33);
        x.set(0, 1, 1);
        x.smash(5, -9, 0, 0, 0);
        share(x, 5, 0, 1);
        x.smash(1, -9, 0, 0, 0);
        share(x, 1, 3, 2);
        share(x, 5, 1, 2);
        x.lift(5);
        x.smash(6, -9, 0, 0, 0);
        share(x, 1, 1, 1);
        share(x, 6, 0, 1);
        // A breakpoint that is ignored does not begin a new plan.
        x.lift(6);
        x.smash(5, -9, 0, 0, 0);
        x.smash(1, -9, 0, 0, 1);
        share(x, 1, 0, 1);
        share(x, 5, 0, 1);
    }

    private static void twentyPlansOfNinetyNineSteps() {
        due.of("promise 24: at most 20 stops of at most 99 steps each");
        for (String more : new String[] {"", "i30"}) {
            // A round: three steps, a loop of 95, the SET (if any) and the JUMP back.
            SideStep x = Due.coded("Ci28+22+22-21z2+2j-2" + more + "j-" + (more.isEmpty() ? 6 : 7));
            x.set(0, 1, 1);
            x.smash(0, -9, 0, 0, 0);
            share(x, 0, more.isEmpty() ? 20 : 0, 1);
            due.is("a plan", x.plan(3), more.isEmpty() ? 1 : 5);
            due.is("its steps", x.about(10), 99);
        }
        SideStep y = Due.coded("Ci28+22+22-21z2+2j-2j-6");
        y.set(0, 1, 1);
        y.smash(0, -9, 0, 0, 1);
        share(y, 0, 0, 1);
    }

    private static void ignoreCounts() {
        due.of("promise 24: with the present ignore counts");
        for (int by = 0; by <= 9; by++) {
            SideStep x = rounds(10);
            x.smash(2, -9, 0, 0, by);
            share(x, 2, 10 - by, 1);
            due.is("the ignore count stays", x.broken(2, 4), by);
            due.is("the hits stay", x.broken(2, 5), 0);
        }
        SideStep y = rounds(9);
        y.smash(2, -9, 0, 0, 9);
        share(y, 2, 0, 1);
    }

    private static void conditions() {
        due.of("promise 24: with the present conditions");
        int[][] cases = {{0, 0, 0}, {0, 1, 0}, {0, 9, 8}, {1, 0, 0}, {1, 1, 1}, {1, 9, 1}, {2, 0, 12}, {2, 9, 3}};
        for (int[] c : cases) {
            SideStep x = rounds(12);
            x.smash(2, 0, c[0], c[1], 0);
            share(x, 2, c[2], 1);
        }
    }

    private static void notWatched() {
        due.of("promise 24: supposing that no cell is watched");
        SideStep x = Due.coded("Ci01s00s07h");
        for (int m = 0; m < 8; m++) {
            x.watch(m);
        }
        x.smash(3, -9, 0, 0, 0);
        share(x, 3, 1, 1);
        chance(x, 1, 0, 1, 1);
        due.is("they are watched still", x.about(7), 255);
    }

    private static void haltedAlready() {
        due.of("promise 24: a machine that has halted makes no stop");
        SideStep y = Due.coded("Cj+0h");
        y.smash(0, -9, 0, 0, 0);
        share(y, 0, 20, 1);
        y.set(2, 0, 1);
        y.plan(0);
        share(y, 0, 0, 1);
        chance(y, 1, 0, 0, 1);
        SideStep x = Due.coded("Ch");
        x.smash(0, -9, 0, 0, 0);
        share(x, 0, 0, 1);
        x.plan(0);
        share(x, 0, 0, 1);
        chance(x, 0, 0, 1, 1);
        chance(x, 1, 0, 0, 1);
    }

    private static void counterOutside() {
        due.of("promise 24: from the present state, also outside the program");
        for (String text : new String[] {"Cj-1", "Cj-9", "Cj+1"}) {
            SideStep x = Due.coded(text);
            x.smash(0, -9, 0, 0, 0);
            share(x, 0, 0, 1);
            x.plan(0);
            share(x, 0, 0, 1);
            chance(x, 1, 0, 0, 1);
        }
        SideStep z = Due.coded("Cj+0j+1");
        z.smash(0, -9, 0, 0, 0);
        share(z, 0, 20, 1);
        z.set(2, 0, 1);
        z.plan(0);
        share(z, 0, 0, 1);
        SideStep y = Due.coded("C" + "h".repeat(15) + "j+1");
        y.smash(15, -9, 0, 0, 0);
        y.smash(0, -9, 0, 0, 0);
        y.set(2, 0, 15);
        share(y, 15, 0, 1);
        share(y, 0, 0, 1);
    }

    private static void chanceRange() {
        due.of("promise 25: BAD if v (0 to 20) or x (0 to 10) is out of range");
        SideStep x = row(3, 1, 1);
        for (int v : new int[] {-1, 21, -9, MIN, MAX}) {
            due.is("chance(" + v + ", 0)", x.chance(v, 0, true), -2);
            due.is("chance(" + v + ", 10)", x.chance(v, 10, false), -2);
        }
        for (int lost : new int[] {-1, 11, -9, MIN, MAX}) {
            due.is("chance(0, " + lost + ")", x.chance(0, lost, true), -2);
            due.is("chance(20, " + lost + ")", x.chance(20, lost, false), -2);
        }
        for (int v = 0; v <= 20; v++) {
            for (int lost = 0; lost <= 10; lost++) {
                int upper = v == 0 ? 10 : v == 1 ? 10 - lost : 0;
                int divisor = upper % 10 == 0 ? 10 : upper == 5 ? 5 : upper % 2 == 0 ? 2 : 1;
                chance(x, v, lost, upper / divisor, 10 / divisor);
            }
        }
    }

    private static void chanceOfSeven() {
        due.of("promise 25: LATE if more than 6 places are armed");
        for (int armed = 0; armed <= 6; armed++) {
            SideStep x = row(16, 16 - armed, 15);
            chance(x, armed, 0, 1, 1);
            chance(x, armed + 1, 0, 0, 1);
        }
        for (int armed = 7; armed <= 16; armed++) {
            SideStep x = row(16, 16 - armed, 15);
            due.is("chance(0, 0, true) of " + armed, x.chance(0, 0, true), -3);
            due.is("chance(20, 10, false) of " + armed, x.chance(20, 10, false), -3);
        }
    }

    private static void chanceOrderOfErrors() {
        due.of("promise 25: BAD, then LATE");
        SideStep x = row(16, 9, 15);
        due.is("chance(21, 0)", x.chance(21, 0, true), -2);
        due.is("chance(-1, 0)", x.chance(-1, 0, true), -2);
        due.is("chance(0, 11)", x.chance(0, 11, false), -2);
        due.is("chance(0, -1)", x.chance(0, -1, false), -2);
        due.is("chance(0, 0)", x.chance(0, 0, false), -3);
    }

    private static void chanceOfNoArmedPlace() {
        due.of("promise 25: no place is armed");
        for (SideStep x : new SideStep[] {new SideStep(), Due.coded("C"), Due.coded("Cj+0")}) {
            for (int lost : new int[] {0, 5, 10}) {
                chance(x, 0, lost, 1, 1);
                chance(x, 1, lost, 0, 1);
                chance(x, 20, lost, 0, 1);
            }
        }
    }

    private static void chanceOfNothingLost() {
        due.of("promise 25: each armed place is lost with the probability 0 / 10");
        SideStep x = row(8, 2, 7);
        for (int v = 0; v <= 20; v++) {
            chance(x, v, 0, v <= 6 ? 1 : 0, 1);
        }
    }

    private static void chanceOfAllLost() {
        due.of("promise 25: each armed place is lost with the probability 10 / 10");
        SideStep x = row(8, 2, 7);
        for (int v = 0; v <= 20; v++) {
            chance(x, v, 10, v == 0 ? 1 : 0, 1);
        }
    }

    private static void chanceLowestTerms() {
        due.of("promise 25: a fraction in lowest terms");
        SideStep x = row(8, 2, 7);
        chance(x, 6, 9, 1, 1000000);
        chance(x, 6, 1, 531441, 1000000);
        chance(x, 1, 1, 999999, 1000000);
        chance(x, 1, 9, 1000000 - 531441, 1000000);
        chance(x, 6, 5, 1, 64);
        chance(x, 1, 5, 63, 64);
        chance(x, 6, 8, 1, 15625);
        chance(x, 0, 3, 1, 1);
        chance(x, 7, 3, 0, 1);
    }

    private static void chanceOfAtLeast() {
        due.of("promise 25: that the number of stops is at least v");
        SideStep x = row(4, 1, 3);
        chance(x, 0, 5, 1, 1);
        chance(x, 1, 5, 7, 8);
        chance(x, 2, 5, 1, 2);
        chance(x, 3, 5, 1, 8);
        chance(x, 4, 5, 0, 1);
        SideStep y = Due.coded("Cj+0");
        y.smash(0, -9, 0, 0, 0);
        chance(y, 20, 4, 3, 5);
        chance(y, 19, 4, 3, 5);
        chance(y, 0, 4, 1, 1);
    }

    /** A place for each bit of the set is armed as in the whole; its stops are those of real plans. */
    private static int stopsByPlans(int[][] armed, int set, int rounds) {
        SideStep x = rounds(rounds);
        for (int i = 0; i < armed.length; i++) {
            if ((set >> i & 1) == 1) {
                x.smash(armed[i][0], armed[i][1], armed[i][2], armed[i][3], armed[i][4]);
            }
        }
        int stops = 0;
        while (stops < 20 && x.plan(3) == 1) {
            stops++;
        }
        return stops;
    }

    private static void asManyStopsAsPlans() {
        due.of("promises 24 and 25: the mean over all sequences; the sum over all sets");
        int[][] armed = {{0, 0, 2, 4, 2}, {1, -9, 0, 0, 9}, {2, 0, 1, 5, 0}, {3, 0, 0, 7, 1}, {4, -9, 0, 0, 0}};
        for (int rounds : new int[] {0, 1, 6, 9, 12, 32, 40}) {
            int many = armed.length;
            int[] value = new int[1 << many];
            for (int set = 0; set < 1 << many; set++) {
                value[set] = stopsByPlans(armed, set, rounds);
            }
            SideStep x = rounds(rounds);
            for (int[] a : armed) {
                x.smash(a[0], a[1], a[2], a[3], a[4]);
            }
            List<int[]> sequences = new ArrayList<>();
            sequences(new int[many], 0, sequences);
            for (int i = 0; i < many; i++) {
                long sum = 0;
                for (int[] sequence : sequences) {
                    int before = 0;
                    for (int k = 0; sequence[k] != i; k++) {
                        before |= 1 << sequence[k];
                    }
                    sum += value[before | 1 << i] - value[before];
                }
                long common = gcd(sum, sequences.size());
                share(x, armed[i][0], (int) (sum / common), (int) (sequences.size() / common));
            }
            chancesOf(x, value, many);
        }
    }

    private static void chancesOf(SideStep x, int[] value, int many) {
        for (int v : new int[] {0, 1, 2, 3, 5, 8, 19, 20}) {
            for (int lost : new int[] {0, 1, 5, 9, 10}) {
                long sum = 0;
                long whole = 1;
                for (int i = 0; i < many; i++) {
                    whole *= 10;
                }
                for (int set = 0; set < 1 << many; set++) {
                    long weight = 1;
                    for (int i = 0; i < many; i++) {
                        weight *= (set >> i & 1) == 1 ? 10 - lost : lost;
                    }
                    sum += value[set] >= v ? weight : 0;
                }
                long common = gcd(sum, whole);
                chance(x, v, lost, (int) (sum / common), (int) (whole / common));
            }
        }
    }

    private static long gcd(long a, long b) {
        return b == 0 ? a : gcd(b, a % b);
    }

    private static void sequences(int[] sequence, int filled, List<int[]> all) {
        if (filled == sequence.length) {
            all.add(sequence.clone());
            return;
        }
        for (int next = 0; next < sequence.length; next++) {
            boolean free = true;
            for (int k = 0; k < filled; k++) {
                free &= sequence[k] != next;
            }
            if (free) {
                sequence[filled] = next;
                sequences(sequence, filled + 1, all);
            }
        }
    }

    private static void questionsChangeNothing() {
        due.of("promises 24 and 25: supposing");
        SideStep x = rounds(12);
        x.smash(2, 0, 2, 4, 3);
        x.smash(3, -9, 0, 0, 9);
        x.watch(0);
        x.plan(0);
        String before = Due.picture(x);
        x.share(2, true);
        x.share(3, false);
        x.chance(3, 3, true);
        x.chance(20, 10, false);
        due.isTrue("nothing has changed", before.equals(Due.picture(x)));
    }
}
