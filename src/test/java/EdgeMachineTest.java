/** The boundary cases of THE MACHINE, a test for each sentence. */
public final class EdgeMachineTest {
    private static final int MAX = Integer.MAX_VALUE;
    private static final int MIN = Integer.MIN_VALUE;
    private static final Due due = new Due();

    public static void main(String[] args) {
        registersAndCells();
        registersWrap();
        cellsHoldAllInts();
        stackOfEight();
        stackEmpty();
        sixteenInstructions();
        set();
        registersOfInstructions();
        jump();
        zero();
        call();
        link();
        halt();
        haltGoesOn();
        noInstructionAtTheCounter();
        faultDoesNothing();
        digest();
        due.end();
    }

    private static void registersAndCells() {
        due.of("the registers 0 to 3 and the cells 0 to 7, 0 at the beginning");
        SideStep x = Due.coded("Ch");
        for (int r = 0; r <= 3; r++) {
            due.is("register(" + r + ")", x.register(r), 0);
        }
        for (int m = 0; m <= 7; m++) {
            due.is("cell(" + m + ")", x.cell(m), 0);
        }
        due.is("register(-1)", x.register(-1), -1);
        due.is("register(4)", x.register(4), -1);
        due.is("cell(-1)", x.cell(-1), -1);
        due.is("cell(8)", x.cell(8), -1);
    }

    /** What register 0 is after an instruction at place 0. */
    private static int after(String instruction, int first, int second) {
        SideStep x = Due.coded("C" + instruction + "h");
        x.set(0, 0, first);
        x.set(0, 1, second);
        x.plan(0);
        return x.register(0);
    }

    private static void registersWrap() {
        due.of("32-bit ints that wrap");
        due.is("MAX + 0", after("+01", MAX, 0), MAX);
        due.is("MAX + 1", after("+01", MAX, 1), MIN);
        due.is("MIN + 0", after("+01", MIN, 0), MIN);
        due.is("MIN + -1", after("+01", MIN, -1), MAX);
        due.is("MAX + MAX", after("+00", MAX, 0), -2);
        due.is("MIN + MIN", after("+00", MIN, 0), 0);
        due.is("MIN - 0", after("-01", MIN, 0), MIN);
        due.is("MIN - 1", after("-01", MIN, 1), MAX);
        due.is("MAX - 0", after("-01", MAX, 0), MAX);
        due.is("MAX - -1", after("-01", MAX, -1), MIN);
        due.is("0 - MIN", after("-01", 0, MIN), MIN);
        due.is("MIN - MIN", after("-00", MIN, 0), 0);
    }

    private static void cellsHoldAllInts() {
        due.of("cells are 32-bit ints");
        for (int value : new int[] {MIN, -1, 0, MAX}) {
            SideStep x = Due.coded("Cs07l37s30h");
            x.set(0, 0, value);
            due.is("plan(3)", x.plan(3), 3);
            due.is("cell(7)", x.cell(7), value);
            due.is("register(3)", x.register(3), value);
            due.is("cell(0)", x.cell(0), value);
            due.is("cell(1)", x.cell(1), 0);
            due.is("cell(6)", x.cell(6), 0);
        }
    }

    private static void stackOfEight() {
        due.of("a step faults by a CALL with 8 places on the stack");
        SideStep x = Due.coded("Cc00");
        for (int depth = 1; depth <= 8; depth++) {
            due.is("CALL " + depth, x.plan(0), 0);
            due.is("places on the stack", x.about(2), depth);
        }
        due.is("the ninth CALL", x.plan(0), 4);
        due.is("places on the stack", x.about(2), 8);
        due.is("stack(7)", x.stack(7), 1);
        due.is("stack(8)", x.stack(8), -9);
        SideStep y = Due.coded("Cc01c02c03c04c05c06c07c09hb");
        due.is("a RETURN with 8 places", y.plan(3), 3);
        due.is("places on the stack", y.about(2), 7);
        SideStep z = Due.coded("Cc00b");
        Due.steps(z, 8);
        z.set(2, 0, 1);
        due.is("a RETURN makes room", z.plan(0), 0);
        z.set(2, 0, 0);
        due.is("for one CALL", z.plan(0), 0);
        due.is("and no more", z.plan(0), 4);
    }

    private static void stackEmpty() {
        due.of("a step faults by a RETURN with an empty stack");
        SideStep x = Due.coded("Cc02bb");
        due.is("empty at the beginning", x.about(2), 0);
        due.is("stack(0)", x.stack(0), -9);
        due.is("CALL", x.plan(0), 0);
        due.is("RETURN with one place", x.plan(0), 0);
        due.is("back", x.about(1), 1);
        due.is("RETURN with none", x.plan(0), 4);
        due.is("counter", x.about(1), 1);
        due.is("places on the stack", x.about(2), 0);
    }

    private static void sixteenInstructions() {
        due.of("at most 16 instructions at the places 0, 1, 2, ...");
        SideStep x = Due.coded("C" + "k0".repeat(16));
        due.is("about(0)", x.about(0), 16);
        for (int place = 0; place < 16; place++) {
            due.is("counter", x.about(1), place);
            due.is("plan(0)", x.plan(0), 0);
            due.is("register(0)", x.register(0), place + 1);
        }
        due.is("counter behind the last", x.about(1), 16);
        due.is("plan(0)", x.plan(0), 4);
        due.is("clock", x.about(10), 16);
        due.is("set to the last place", x.set(2, 0, 15), 16);
        due.is("no place 16", x.set(2, 0, 16), -1);
    }

    private static void set() {
        due.of("SET r f: register r becomes f (0 to 9)");
        for (int f = 0; f <= 9; f++) {
            SideStep x = Due.coded("Ci0" + f + "i3" + f + "h");
            x.set(0, 0, -5);
            x.set(0, 3, -5);
            Due.steps(x, 2);
            due.is("register(0)", x.register(0), f);
            due.is("register(3)", x.register(3), f);
            due.is("register(1)", x.register(1), 0);
            due.is("counter", x.about(1), 2);
        }
    }

    private static void registersOfInstructions() {
        due.of("ADD, SUB, LOAD, SAVE with the first and the last registers and cells");
        SideStep x = Due.coded("C+03+30-03-30l00l37s00s37h");
        x.set(0, 0, 10);
        x.set(0, 3, 3);
        x.set(1, 0, 70);
        x.set(1, 7, 77);
        int[][] due03 = {{13, 3}, {13, 16}, {-3, 16}, {-3, 19}, {70, 19}, {70, 77}};
        for (int[] both : due03) {
            x.plan(0);
            due.is("register(0)", x.register(0), both[0]);
            due.is("register(3)", x.register(3), both[1]);
        }
        x.set(0, 0, 1);
        x.set(0, 3, 2);
        Due.steps(x, 2);
        due.is("cell(0)", x.cell(0), 1);
        due.is("cell(7)", x.cell(7), 2);
    }

    /** The counter after the JUMP or ZERO of a distance at a place of 16. */
    private static int jumpFrom(int place, String instruction) {
        SideStep x = Due.coded("C" + "h".repeat(place) + instruction + "h".repeat(15 - place));
        x.set(2, 0, place);
        due.is("plan(0) of " + instruction + " at " + place, x.plan(0), 0);
        return x.about(1);
    }

    private static void jump() {
        due.of("JUMP d: it is followed by A + d (d from -9 to 9)");
        for (int d = 0; d <= 9; d++) {
            due.is("+" + d + " at 0", jumpFrom(0, "j+" + d), d);
            due.is("-" + d + " at 0", jumpFrom(0, "j-" + d), -d);
            due.is("+" + d + " at 15", jumpFrom(15, "j+" + d), 15 + d);
            due.is("-" + d + " at 15", jumpFrom(15, "j-" + d), 15 - d);
        }
        due.is("to the first place", jumpFrom(9, "j-9"), 0);
        due.is("to the last place", jumpFrom(6, "j+9"), 15);
    }

    private static void zero() {
        due.of("ZERO r d: the same if register r is 0");
        for (int r = 0; r <= 3; r++) {
            for (int value : new int[] {0, 1, -1, MIN, MAX}) {
                SideStep x = Due.coded("Cz" + r + "+9h");
                for (int other = 0; other <= 3; other++) {
                    x.set(0, other, other == r ? value : 1 - Math.abs(Integer.signum(value)));
                }
                due.is("plan(0)", x.plan(0), 0);
                due.is("register " + r + " is " + value, x.about(1), value == 0 ? 9 : 1);
            }
        }
        due.is("-9 at 0", jumpFrom(0, "z0-9"), -9);
        due.is("-9 at 9", jumpFrom(9, "z3-9"), 0);
        due.is("+9 at 15", jumpFrom(15, "z3+9"), 24);
        due.is("+0 at 15", jumpFrom(15, "z0+0"), 15);
    }

    private static void call() {
        due.of("CALL a: A + 1 is pushed on the stack, it is followed by the place a (0 to 15)");
        for (int a = 0; a <= 15; a++) {
            SideStep x = Due.coded("C" + "h".repeat(15) + "c" + a / 10 + a % 10);
            x.set(2, 0, 15);
            due.is("plan(0)", x.plan(0), 0);
            due.is("counter", x.about(1), a);
            due.is("pushed", x.stack(0), 16);
        }
        SideStep y = Due.coded("Cc01");
        due.is("a place without an instruction is no fault of the CALL", y.plan(0), 0);
        due.is("counter", y.about(1), 1);
        due.is("pushed", y.stack(0), 1);
        due.is("but of the next step", y.plan(0), 4);
        SideStep z = Due.coded("C" + "h".repeat(14) + "bc14");
        z.set(2, 0, 15);
        due.is("CALL at the last place", z.plan(0), 0);
        due.is("RETURN behind the last place", z.plan(0), 0);
        due.is("counter", z.about(1), 16);
        due.is("no instruction there", z.plan(0), 4);
    }

    private static void link() {
        due.of("LINK r: register r becomes A + 1");
        SideStep x = Due.coded("Ck0" + "h".repeat(14) + "k3");
        due.is("plan(0)", x.plan(0), 0);
        due.is("at the first place", x.register(0), 1);
        x.set(2, 0, 15);
        due.is("plan(0)", x.plan(0), 0);
        due.is("at the last place", x.register(3), 16);
    }

    private static void halt() {
        due.of("HALT: the machine has halted; the program counter stays at A");
        SideStep x = Due.coded("C" + "i00".repeat(15) + "h");
        due.is("plan(3)", x.plan(3), 3);
        due.is("counter", x.about(1), 15);
        due.is("halted", x.about(3), 1);
        due.is("a step that halts counts", x.about(10), 16);
        due.is("and costs", x.about(9), 16);
        SideStep y = Due.coded("Ch");
        due.is("not halted before", y.about(3), 0);
        due.is("plan(3)", y.plan(3), 3);
        due.is("counter", y.about(1), 0);
    }

    private static void haltGoesOn() {
        due.of("it goes on only after the program counter has been set by set()");
        SideStep x = Due.coded("Ci01h");
        x.plan(3);
        x.set(0, 0, 5);
        x.set(1, 0, 5);
        x.set(2, 0, 2);
        x.set(2, 1, 0);
        x.smash(1, -9, 0, 0, 0);
        x.lift(1);
        x.watch(0);
        x.undo();
        x.keep(0);
        x.again(0);
        x.drawn(1);
        due.is("still halted", x.about(3), 1);
        due.is("plan(0)", x.plan(0), 3);
        due.is("no step", x.about(10), 2);
        due.is("set to where it is", x.set(2, 0, 1), 1);
        due.is("not halted", x.about(3), 0);
        due.is("plan(0)", x.plan(0), 3);
        due.is("a step", x.about(10), 3);
    }

    private static void noInstructionAtTheCounter() {
        due.of("a step faults if there is no instruction at the program counter");
        due.is("no program", new SideStep().plan(0), 4);
        due.is("no instruction", Due.coded("C").plan(0), 4);
        // The first counters outside, on both sides, with a full program and with a small one.
        for (int size : new int[] {1, 16}) {
            SideStep x = Due.coded("C" + "h".repeat(size - 1) + "j+1");
            x.set(2, 0, size - 1);
            due.is("to " + size, x.plan(0), 0);
            due.is("counter", x.about(1), size);
            due.is("plan(3)", x.plan(3), 4);
            SideStep y = Due.coded("Cj-1" + "h".repeat(size - 1));
            due.is("to -1", y.plan(0), 0);
            due.is("counter", y.about(1), -1);
            due.is("plan(3)", y.plan(3), 4);
            due.is("free", y.free(0), 4);
            due.is("free", y.free(1), 0);
        }
    }

    private static void faultDoesNothing() {
        due.of("if a step faults, nothing is done");
        for (String text : new String[] {"Cb", "Cc00", "Cj-9", "Cj+1", "Cj-1"}) {
            SideStep x = Due.coded(text);
            x.smash(0, 0, 1, 1, 3);
            x.watch(0);
            x.watch(1);
            x.watch(2);
            Due.steps(x, 8);
            String before = Due.kept(x);
            due.is("plan(0) of " + text, x.plan(0), 4);
            due.is("plan(1) of " + text, x.plan(1), 4);
            due.is("plan(3) of " + text, x.plan(3), 4);
            due.isTrue(text + " is as before", before.equals(Due.kept(x)));
        }
    }

    private static void digest() {
        due.of("their digest is 0 at the beginning and becomes 31 * digest + number (int)");
        SideStep x = Due.coded("Co0j-1");
        due.is("digest", x.about(5), 0);
        due.is("count", x.about(4), 0);
        x.set(0, 0, MAX);
        long digest = 0;
        for (int i = 1; i <= 5; i++) {
            x.plan(0);
            digest = (int) (31L * digest + MAX);
            due.is("count", x.about(4), i);
            due.is("digest", x.about(5), digest);
            x.plan(0);
        }
        SideStep y = Due.coded("Co0o1o2o3h");
        y.set(0, 0, MAX);
        y.set(0, 1, MAX);
        y.set(0, 3, MIN);
        y.plan(0);
        due.is("MAX", y.about(5), MAX);
        y.plan(0);
        due.is("32 * MAX", y.about(5), -32);
        y.plan(0);
        due.is("0 is put out too", y.about(5), -992);
        y.plan(0);
        due.is("31 * -992 + MIN", y.about(5), MAX - 31 * 992 + 1);
        due.is("count", y.about(4), 4);
    }
}
