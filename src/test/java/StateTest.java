/** Promises 6 to 11: about, register, cell, stack, broken, copy. */
public final class StateTest {
    private static final Due due = new Due();

    public static void main(String[] args) {
        about();
        different();
        counterOutside();
        registersAndCells();
        stack();
        broken();
        copies();
        due.end();
    }

    private static void about() {
        SideStep x = Due.coded("Ci07o0i02o0s05c08hhk1h");
        due.is("about(0)", x.about(0), 10);
        x.smash(9, -9, 0, 0, 0);
        x.smash(0, -9, 0, 0, 0);
        x.watch(7);
        x.watch(0);
        due.is("about(6)", x.about(6), 1 << 9 | 1);
        due.is("about(7)", x.about(7), 1 << 7 | 1);
        due.is("plan(3)", x.plan(3), 1);
        due.is("about(1)", x.about(1), 9);
        due.is("about(2)", x.about(2), 1);
        due.is("about(3)", x.about(3), 0);
        due.is("about(4)", x.about(4), 2);
        due.is("about(5)", x.about(5), 31 * 7 + 2);
        due.is("about(8)", x.about(8), 1);
        due.is("about(9)", x.about(9), 7 + 3);
        due.is("about(10)", x.about(10), 7);
        due.is("about(12)", x.about(12), 5);
        x.see(1, 1);
        x.see(2, 0);
        due.is("about(13)", x.about(13), 2);
        due.is("about(14)", x.about(14), 22);
        x.plan(0);
        due.is("about(3) after a halt", x.about(3), 1);
        due.is("about(1) after a halt", x.about(1), 9);
        due.is("about(10) after a halt", x.about(10), 8);
        due.is("about(9) after a halt", x.about(9), 14);
        due.is("about(8) after a halt", x.about(8), 2);
        due.is("about(-1)", x.about(-1), -2);
        due.is("about(15)", x.about(15), -2);
        due.is("about(MIN)", x.about(Integer.MIN_VALUE), -2);
        due.is("about(MAX)", x.about(Integer.MAX_VALUE), -2);
    }

    private static void different() {
        due.is("different of none", Due.coded("C").about(11), 0);
        due.is("different", Due.coded("Chhhh").about(11), 1);
        due.is("different", Due.coded("Ci01i02i11+01+10-01l01s01").about(11), 8);
        due.is("different", Due.coded("Ci01+01i01+01h").about(11), 3);
        due.is("different", Due.coded("Cz0+1z1+1z0-1j+1j-1c00c10c01k0o0").about(11), 10);
        due.is("JUMP 0 is JUMP 0", Due.coded("Cj+0j-0z1+0z1-0").about(11), 2);
    }

    private static void counterOutside() {
        SideStep x = Due.coded("Cj-9");
        due.is("plan(0)", x.plan(0), 0);
        due.is("about(1)", x.about(1), -9);
        due.is("plan(0)", x.plan(0), 4);
        due.is("set(2, 0, 0)", x.set(2, 0, 0), -9);
        SideStep y = Due.coded("Cc15");
        due.is("plan(0)", y.plan(0), 0);
        due.is("about(1)", y.about(1), 15);
        due.is("plan(3)", y.plan(3), 4);
        due.is("about(1)", y.about(1), 15);
        SideStep z = Due.coded("Chhhhhhhhhhhhhhhj+9");
        z.set(2, 0, 15);
        due.is("plan(0)", z.plan(0), 0);
        due.is("about(1)", z.about(1), 24);
    }

    private static void registersAndCells() {
        SideStep x = Due.coded("Ci05i16s05s17l27+30+31-01h");
        due.is("plan(3)", x.plan(3), 3);
        due.is("register(0)", x.register(0), -1);
        due.is("register(1)", x.register(1), 6);
        due.is("register(2)", x.register(2), 6);
        due.is("register(3)", x.register(3), 11);
        due.is("cell(5)", x.cell(5), 5);
        due.is("cell(7)", x.cell(7), 6);
        due.is("cell(0)", x.cell(0), 0);
        for (int wrong : new int[] {-1, Integer.MIN_VALUE, Integer.MAX_VALUE}) {
            due.is("register(" + wrong + ")", x.register(wrong), -1);
            due.is("cell(" + wrong + ")", x.cell(wrong), -1);
        }
        due.is("register(4)", x.register(4), -1);
        due.is("cell(8)", x.cell(8), -1);
        SideStep y = Due.coded("C+00-01h");
        y.set(0, 0, Integer.MIN_VALUE);
        y.plan(0);
        due.is("ADD wraps", y.register(0), 0);
        y.set(0, 0, Integer.MIN_VALUE);
        y.set(0, 1, 1);
        y.plan(0);
        due.is("SUB wraps", y.register(0), Integer.MAX_VALUE);
    }

    private static void stack() {
        SideStep x = Due.coded("Cj+2hc04hc06hb");
        due.is("stack(0)", x.stack(0), -9);
        x.plan(0);
        x.plan(0);
        x.plan(0);
        due.is("stack(0)", x.stack(0), 3);
        due.is("stack(1)", x.stack(1), 5);
        due.is("stack(2)", x.stack(2), -9);
        due.is("stack(-1)", x.stack(-1), -9);
        due.is("stack(MAX)", x.stack(Integer.MAX_VALUE), -9);
        due.is("stack(MIN)", x.stack(Integer.MIN_VALUE), -9);
        x.plan(0);
        due.is("about(1)", x.about(1), 5);
        due.is("stack(1)", x.stack(1), -9);
    }

    private static void broken() {
        SideStep x = Due.coded("Ci01o0j-1h");
        int[] not = {0, -9, -9, -9, 0, 0};
        for (int what = 0; what <= 5; what++) {
            due.is("broken(3, " + what + ")", x.broken(3, what), not[what]);
        }
        x.smash(1, 2, 0, 9, 1);
        x.plan(3);
        int[] conditional = {1, 2, 0, 9, 0, 1};
        for (int what = 0; what <= 5; what++) {
            due.is("broken(1, " + what + ")", x.broken(1, what), conditional[what]);
        }
        x.smash(1, -9, 1, 3, 7);
        int[] plain = {2, -9, -9, -9, 7, 1};
        for (int what = 0; what <= 5; what++) {
            due.is("broken(1, " + what + ")", x.broken(1, what), plain[what]);
        }
        due.is("broken(4, 0)", x.broken(4, 0), -1);
        due.is("broken(-1, 0)", x.broken(-1, 0), -1);
        due.is("broken(4, 6)", x.broken(4, 6), -1);
        due.is("broken(MAX, 0)", x.broken(Integer.MAX_VALUE, 0), -1);
        due.is("broken(MIN, 0)", x.broken(Integer.MIN_VALUE, 0), -1);
        due.is("broken(0, 6)", x.broken(0, 6), -2);
        due.is("broken(0, -1)", x.broken(0, -1), -2);
        due.is("broken(0, MAX)", x.broken(0, Integer.MAX_VALUE), -2);
    }

    private static void copies() {
        SideStep x = Due.coded("Ci01i02i01i03i02i04h");
        for (int place = 1; place < 6; place++) {
            x.smash(place, -9, 0, 0, 0);
        }
        x.plan(0);
        due.is("no copy", x.about(8), 0);
        x.plan(0);
        x.plan(0);
        due.is("copy(0)", x.copy(0), 1);
        due.is("an equal instruction stands earlier", x.copy(1), 0);
        due.is("copy(2)", x.copy(2), -9);
        x.plan(0);
        due.is("copy(2)", x.copy(2), 3);
        x.plan(0);
        due.is("an equal copy is kept already", x.about(8), 3);
        due.is("copy(0)", x.copy(0), 1);
        x.plan(0);
        due.is("three copies", x.about(8), 3);
        due.is("copy(0)", x.copy(0), 0);
        due.is("copy(1)", x.copy(1), 3);
        due.is("copy(2)", x.copy(2), 5);
        due.is("copy(3)", x.copy(3), -9);
        due.is("copy(-1)", x.copy(-1), -9);
        due.is("copy(MAX)", x.copy(Integer.MAX_VALUE), -9);
        due.is("copy(MIN)", x.copy(Integer.MIN_VALUE), -9);
        x.set(2, 0, 1);
        x.plan(0);
        due.is("kept again as the newest", x.copy(2), 1);
        due.is("the oldest is removed", x.copy(0), 3);
    }
}
