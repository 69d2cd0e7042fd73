/** The boundary cases of promises 6 to 11, a test for each sentence. */
public final class EdgeStateTest {
    private static final Due due = new Due();

    public static void main(String[] args) {
        aboutRange();
        numberOfInstructions();
        programCounter();
        placesOnTheStack();
        armedPlaces();
        watchedCells();
        keptCopies();
        differentInstructions();
        actsAndSightsAndText();
        registerRange();
        cellRange();
        valuesThatLookLikeErrors();
        stackRange();
        brokenPlaces();
        brokenWhats();
        brokenOfNotArmed();
        copyRange();
        copySmallestPlace();
        due.end();
    }

    private static void aboutRange() {
        due.of("promise 6: BAD if what is out of range");
        SideStep x = Due.coded("Ch");
        due.is("about(-1)", x.about(-1), -2);
        due.is("about(0)", x.about(0), 1);
        due.is("about(14)", x.about(14), 2);
        due.is("about(15)", x.about(15), -2);
        due.is("about(MAX)", x.about(Integer.MAX_VALUE), -2);
        due.is("about(MIN)", x.about(Integer.MIN_VALUE), -2);
    }

    private static void numberOfInstructions() {
        due.of("promise 6: 0 number of instructions");
        due.is("none", Due.coded("C").about(0), 0);
        due.is("sixteen", Due.coded("C" + "h".repeat(16)).about(0), 16);
    }

    private static void programCounter() {
        due.of("promise 6: 1 the program counter");
        SideStep x = Due.coded("Cj-9" + "i00".repeat(14) + "j+9");
        due.is("at the beginning", x.about(1), 0);
        x.plan(0);
        due.is("the smallest", x.about(1), -9);
        x.set(2, 0, 15);
        due.is("the last place", x.about(1), 15);
        x.plan(0);
        due.is("the largest", x.about(1), 24);
    }

    private static void placesOnTheStack() {
        due.of("promise 6: 2 number of places on the stack");
        SideStep x = Due.coded("Cc00");
        due.is("none", x.about(2), 0);
        due.is("plan(3)", x.plan(3), 4);
        due.is("eight", x.about(2), 8);
    }

    private static void armedPlaces() {
        due.of("promise 6: 6 the set of armed places");
        SideStep x = Due.coded("C" + "h".repeat(16));
        due.is("none", x.about(6), 0);
        x.smash(15, -9, 0, 0, 0);
        due.is("the last", x.about(6), 32768);
        x.smash(0, -9, 0, 0, 0);
        due.is("the first too", x.about(6), 32769);
        for (int place = 1; place < 15; place++) {
            x.smash(place, 0, 1, 9, 9);
        }
        due.is("all", x.about(6), 65535);
    }

    private static void watchedCells() {
        due.of("promise 6: 7 the set of watched cells");
        SideStep x = new SideStep();
        due.is("none", x.about(7), 0);
        x.watch(7);
        due.is("the last", x.about(7), 128);
        x.watch(0);
        due.is("the first too", x.about(7), 129);
        for (int m = 1; m < 7; m++) {
            x.watch(m);
        }
        due.is("all", x.about(7), 255);
    }

    private static void keptCopies() {
        due.of("promise 6: 8 number of kept copies");
        SideStep x = Due.coded("Ci00i01i02i03i04h");
        for (int place = 0; place < 5; place++) {
            x.smash(place, -9, 0, 0, 0);
        }
        for (int steps = 0; steps <= 5; steps++) {
            due.is("after " + steps + " steps", x.about(8), Math.min(steps, 3));
            x.plan(0);
        }
    }

    private static void differentInstructions() {
        due.of("promise 6: 11 number of different instructions");
        due.is("of none", Due.coded("C").about(11), 0);
        due.is("of sixteen equal", Due.coded("C" + "z3-9".repeat(16)).about(11), 1);
        due.is("of sixteen different",
            Due.coded("Ci00i01i10+00+01-00l00s00j+1j-1z0+1c00bk0o0h").about(11), 16);
        due.is("the same digits", Due.coded("C+01-01l01s01i01").about(11), 5);
        due.is("first and second register", Due.coded("C+01+10+11+00").about(11), 4);
        due.is("a larger register first", Due.coded("Ci30i00i20i10k3k0o3o0z3+1z0+1").about(11), 10);
        due.is("the sign", Due.coded("Cj+9j-9z0+9z0-9").about(11), 4);
        due.is("the place", Due.coded("Cc00c01c10c15c01").about(11), 4);
        due.is("the last is equal to the first", Due.coded("Ch" + "b".repeat(14) + "h").about(11), 2);
    }

    private static void actsAndSightsAndText() {
        due.of("promise 6: 12 acts that can be undone; 13 number of sights; 14 length of the text");
        SideStep x = new SideStep();
        for (int i = 0; i <= 80; i++) {
            due.is("acts", x.about(12), Math.min(i, 14));
            due.is("sights", x.about(13), Math.min(i, 6));
            due.is("length", x.about(14), i);
            x.set(0, 0, i);
            x.see(i, 0);
            x.write(i);
        }
        due.is("length", x.about(14), 80);
    }

    private static void registerRange() {
        due.of("promise 7: UNKNOWN if there is no such register");
        SideStep x = new SideStep();
        for (int r = 0; r <= 3; r++) {
            x.set(0, r, 100 + r);
        }
        int[] wrong = {-1, 4, Integer.MIN_VALUE, Integer.MAX_VALUE};
        for (int r : wrong) {
            due.is("register(" + r + ")", x.register(r), -1);
        }
        for (int r = 0; r <= 3; r++) {
            due.is("register(" + r + ")", x.register(r), 100 + r);
        }
    }

    private static void cellRange() {
        due.of("promise 8: UNKNOWN if there is no such cell");
        SideStep x = new SideStep();
        for (int m = 0; m <= 7; m++) {
            x.set(1, m, 100 + m);
        }
        int[] wrong = {-1, 8, Integer.MIN_VALUE, Integer.MAX_VALUE};
        for (int m : wrong) {
            due.is("cell(" + m + ")", x.cell(m), -1);
        }
        for (int m = 0; m <= 7; m++) {
            due.is("cell(" + m + ")", x.cell(m), 100 + m);
        }
    }

    private static void valuesThatLookLikeErrors() {
        due.of("promises 7 and 8: the number, whatever it is");
        SideStep x = new SideStep();
        int[] numbers = {-1, -2, -3, -4, -9, Integer.MIN_VALUE, Integer.MAX_VALUE, 0};
        int before = 0;
        for (int number : numbers) {
            due.is("set(0, 3, " + number + ")", x.set(0, 3, number), before);
            due.is("set(1, 7, " + number + ")", x.set(1, 7, number), before);
            due.is("register(3)", x.register(3), number);
            due.is("cell(7)", x.cell(7), number);
            before = number;
        }
    }

    private static void stackRange() {
        due.of("promise 9: NONE if there is no such position (whatever i is)");
        SideStep x = Due.coded("Cc01c02c03c04c05c06c07c08bh");
        for (int depth = 0; depth <= 8; depth++) {
            for (int i = -1; i <= 9; i++) {
                due.is("stack(" + i + ") of " + depth, x.stack(i), i >= 0 && i < depth ? i + 1 : -9);
            }
            due.is("stack(MAX)", x.stack(Integer.MAX_VALUE), -9);
            due.is("stack(MIN)", x.stack(Integer.MIN_VALUE), -9);
            x.plan(0);
        }
        due.is("what a RETURN removed", x.stack(7), -9);
        due.is("the top then", x.stack(6), 7);
    }

    private static void brokenPlaces() {
        due.of("promise 10: UNKNOWN if there is no such place");
        for (int size : new int[] {0, 1, 15, 16}) {
            SideStep x = Due.coded("C" + "h".repeat(size));
            int[] wrong = {-1, size, 16, 17, -9, Integer.MIN_VALUE, Integer.MAX_VALUE};
            for (int place : wrong) {
                for (int what = -1; what <= 6; what++) {
                    due.is("broken(" + place + ", " + what + ") of " + size, x.broken(place, what), -1);
                }
            }
            if (size > 0) {
                due.is("broken of the first", x.broken(0, 0), 0);
                due.is("broken of the last", x.broken(size - 1, 0), 0);
            }
        }
    }

    private static void brokenWhats() {
        due.of("promise 10: BAD if what is out of range");
        SideStep x = Due.coded("Ch" + "b".repeat(15));
        x.smash(15, 3, 2, 9, 8);
        for (int place : new int[] {0, 15}) {
            due.is("broken(" + place + ", -1)", x.broken(place, -1), -2);
            due.is("broken(" + place + ", 6)", x.broken(place, 6), -2);
            due.is("broken(" + place + ", MIN)", x.broken(place, Integer.MIN_VALUE), -2);
            due.is("broken(" + place + ", MAX)", x.broken(place, Integer.MAX_VALUE), -2);
        }
        due.brokenIs(x, 15, 1, 3, 2, 9, 8, 0);
    }

    private static void brokenOfNotArmed() {
        due.of("promise 10: NONE if the place is not armed or has no condition; 0 if it is not armed");
        SideStep x = Due.coded("Cj+0");
        due.brokenIs(x, 0, 0, -9, -9, -9, 0, 0);
        x.smash(0, 0, 0, 0, 0);
        due.brokenIs(x, 0, 1, 0, 0, 0, 0, 0);
        x.plan(3);
        x.plan(0);
        x.smash(0, -9, 2, 9, 9);
        due.brokenIs(x, 0, 2, -9, -9, -9, 9, 0);
        x.smash(0, 3, 2, 9, 1);
        due.brokenIs(x, 0, 3, 3, 2, 9, 1, 0);
        for (int i = 0; i < 3; i++) {
            x.lift(0);
        }
        due.brokenIs(x, 0, 0, -9, -9, -9, 0, 0);
        x.smash(0, -9, 0, 0, 0);
        x.plan(0);
        due.brokenIs(x, 0, 1, -9, -9, -9, 0, 1);
        x.lift(0);
        due.brokenIs(x, 0, 0, -9, -9, -9, 0, 0);
    }

    private static void copyRange() {
        due.of("promise 11: NONE if there is no such position (whatever i is)");
        SideStep x = Due.coded("Ci00i01i02i03h");
        for (int place = 0; place < 4; place++) {
            x.smash(place, -9, 0, 0, 0);
        }
        for (int steps = 0; steps <= 3; steps++) {
            for (int i = -1; i <= 4; i++) {
                due.is("copy(" + i + ") of " + steps, x.copy(i), i >= 0 && i < steps ? i : -9);
            }
            due.is("copy(MAX)", x.copy(Integer.MAX_VALUE), -9);
            due.is("copy(MIN)", x.copy(Integer.MIN_VALUE), -9);
            x.plan(0);
        }
        for (int i = -1; i <= 4; i++) {
            due.is("copy(" + i + ") of the latest three", x.copy(i), i >= 0 && i < 3 ? i + 1 : -9);
        }
    }

    private static void copySmallestPlace() {
        due.of("promise 11: the smallest place whose instruction equals the copy");
        SideStep x = Due.coded("Ci00" + "k1".repeat(14) + "i00");
        x.smash(15, -9, 0, 0, 0);
        x.set(2, 0, 15);
        x.plan(0);
        due.is("the first of two", x.copy(0), 0);
        x.smash(14, -9, 0, 0, 0);
        x.set(2, 0, 14);
        x.plan(0);
        due.is("the first of fourteen", x.copy(1), 1);
        x.smash(0, -9, 0, 0, 0);
        x.set(2, 0, 0);
        x.plan(0);
        due.is("equal instructions make one copy", x.about(8), 2);
        SideStep y = Due.coded("C" + "h".repeat(15) + "b");
        y.smash(15, -9, 0, 0, 0);
        y.set(2, 0, 15);
        due.is("a fault", y.plan(0), 4);
        due.is("keeps no copy", y.copy(0), -9);
    }
}
