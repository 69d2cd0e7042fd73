/** Promises 1 to 5: a new object, write, wipe, fault, code. */
public final class CodeTest {
    private static final Due due = new Due();

    public static void main(String[] args) {
        newObject();
        write();
        wipe();
        faults();
        programs();
        code();
        codeBeginsAnew();
        due.end();
    }

    private static void newObject() {
        SideStep x = new SideStep();
        for (int what = 0; what <= 14; what++) {
            due.is("new about(" + what + ")", x.about(what), 0);
        }
        for (int r = 0; r < 4; r++) {
            due.is("new register", x.register(r), 0);
        }
        for (int m = 0; m < 8; m++) {
            due.is("new cell", x.cell(m), 0);
        }
        due.is("new stack(0)", x.stack(0), -9);
        due.is("new copy(0)", x.copy(0), -9);
        due.is("new seed", x.seed(1), 0);
        due.is("new wipe()", x.wipe(), 0);
        due.is("new again(0)", x.again(0), -3);
        due.is("new again(1)", x.again(1), -3);
        due.is("new undo()", x.undo(), -3);
        due.is("new broken(0, 0)", x.broken(0, 0), -1);
        due.is("new unsee()", x.unsee(), 0);
    }

    private static void write() {
        SideStep x = new SideStep();
        due.is("write(-1)", x.write(-1), -2);
        due.is("write(256)", x.write(256), -2);
        due.is("write(MAX)", x.write(Integer.MAX_VALUE), -2);
        due.is("write(MIN)", x.write(Integer.MIN_VALUE), -2);
        due.is("length", x.about(14), 0);
        due.is("write(0)", x.write(0), 1);
        due.is("write(255)", x.write(255), 2);
        for (int i = 3; i <= 80; i++) {
            due.is("write", x.write('h'), i);
        }
        due.is("write to a full text", x.write('h'), -4);
        due.is("write(256) to a full text", x.write(256), -2);
        due.is("length", x.about(14), 80);
    }

    private static void wipe() {
        SideStep x = new SideStep();
        Due.write(x, "Chh");
        due.is("code()", x.code(), 2);
        due.is("wipe()", x.wipe(), 3);
        due.is("wipe() again", x.wipe(), 0);
        due.is("length", x.about(14), 0);
        due.is("the program stays", x.about(0), 2);
        due.is("fault()", x.fault(), 0);
        due.is("write", x.write('C'), 1);
    }

    private static void fault(String text, int want) {
        SideStep x = new SideStep();
        Due.write(x, text);
        due.is("fault() of " + text, x.fault(), want);
        due.is("fault() of " + text + " again", x.fault(), want);
        due.is("code() of " + text, x.code(), -3);
        due.is("about(0) of " + text, x.about(0), 0);
    }

    private static void faults() {
        fault("", 0);
        fault("c", 0);
        fault("h", 0);
        fault(" C", 0);
        fault("CC", 1);
        fault("C ", 1);
        fault("Ch h", 2);
        fault("Ch" + (char) 0, 2);
        fault("Ch" + (char) 255, 2);
        for (String letter : "i + - l s j z c k o".split(" ")) {
            fault("C" + letter, 2);
            fault("C" + letter + "x", 2);
            fault("C" + letter + "/", 2);
            fault("C" + letter + ":", 2);
        }
        for (String letter : "i + - l s z k o".split(" ")) {
            fault("C" + letter + "4", 2);
        }
        for (String start : "i0 +0 -0 l0 s0 j+ j- z0 z0+ c0 c1".split(" ")) {
            fault("C" + start, 1 + start.length());
            fault("C" + start + "/", 1 + start.length());
            fault("C" + start + ":", 1 + start.length());
            fault("C" + start + "h", 1 + start.length());
        }
        fault("C+04", 3);
        fault("C-34", 3);
        fault("Cl08", 3);
        fault("Cs38", 3);
        fault("Cj1", 2);
        fault("Cz01", 3);
        fault("Cc2", 2);
        fault("Cc20", 2);
        fault("Cc16", 3);
        fault("Cc19", 3);
        fault("CH", 1);
        fault("Chhhhhhhhhhhhhhhhh", 17);
        fault("Chhhhhhhhhhhhhhhhx", 17);
        fault("Chhhhhhhhhhhhhhhhi", 17);
        fault("Chhhhhhhhhhhhhhhi0", 18);
        fault("C" + "z0+1".repeat(16) + "h", 65);
        fault("C" + "h".repeat(79), 17);
    }

    private static void program(String text, int size) {
        SideStep x = new SideStep();
        Due.write(x, text);
        due.is("fault() of " + text, x.fault(), -9);
        due.is("about(0) before code()", x.about(0), 0);
        due.is("code() of " + text, x.code(), size);
        due.is("about(0) of " + text, x.about(0), size);
        due.is("about(14) of " + text, x.about(14), text.length());
    }

    private static void programs() {
        program("C", 0);
        program("Ch", 1);
        program("Cb", 1);
        program("Ci09i39+00+33-00-33l00l37s00s37", 10);
        program("Cj+0j-9z0+0z3-9c00c09c10c15k0k3o0o3", 12);
        program("Chhhhhhhhhhhhhhhh", 16);
        program("C" + "z0+1".repeat(16), 16);
    }

    private static void code() {
        SideStep x = Due.coded("Ci01h");
        Due.write(x, "Ci01ho");
        due.is("code() with a fault", x.code(), -3);
        due.is("the program stays", x.about(0), 2);
        x.wipe();
        due.is("code() of no text", x.code(), -3);
        Due.write(x, "C");
        due.is("code() of no instruction", x.code(), 0);
        due.is("no instruction", x.about(0), 0);
        due.is("plan(0)", x.plan(0), 4);
        Due.write(x, "Ci09");
        Due.write(x, "Ci0");
        due.is("what was wiped does not count", x.fault(), 3);
    }

    private static void codeBeginsAnew() {
        SideStep x = Due.coded("Ci05o0s00c05hk1h");
        x.smash(1, 0, 1, 5, 2);
        x.smash(4, -9, 0, 0, 0);
        x.watch(2);
        x.keep(0);
        x.keep(1);
        x.plan(3);
        x.set(0, 3, 9);
        x.see(4, 1);
        x.seed(77);
        Due.write(x, "Cho0");
        String text = "Cho0";
        due.is("code()", x.code(), 2);
        SideStep fresh = Due.coded(text);
        fresh.see(4, 1);
        fresh.seed(77);
        due.isTrue("code() begins anew", Due.picture(x).equals(Due.picture(fresh)));
        due.is("slot 0", x.again(0), -3);
        due.is("slot 1", x.again(1), -3);
        due.is("undo()", x.undo(), -3);
        due.is("sights stay", x.about(13), 1);
        due.is("text stays", x.about(14), 4);
        due.is("seed stays", x.seed(0), 77);
        due.is("plan(3)", x.plan(3), 3);
        due.is("code() after a halt", x.code(), 2);
        due.is("not halted", x.about(3), 0);
    }
}
