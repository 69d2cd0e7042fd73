/** Promises 13 to 17: set, smash, lift, watch, undo. */
public final class ActsTest {
    private static final Due due = new Due();

    public static void main(String[] args) {
        set();
        setErrors();
        smash();
        smashErrors();
        lift();
        watch();
        undoEachAct();
        undoStackAndCopies();
        undoAtMost14();
        undoAndActAgain();
        due.end();
    }

    private static void set() {
        SideStep x = Due.coded("Ci01h");
        due.is("register", x.set(0, 3, -7), 0);
        due.is("register", x.set(0, 3, Integer.MAX_VALUE), -7);
        due.is("register(3)", x.register(3), Integer.MAX_VALUE);
        due.is("cell", x.set(1, 7, Integer.MIN_VALUE), 0);
        due.is("cell", x.set(1, 7, 4), Integer.MIN_VALUE);
        due.is("cell(7)", x.cell(7), 4);
        due.is("register(0) stays", x.register(0), 0);
        due.is("counter", x.set(2, 0, 1), 0);
        due.is("counter", x.set(2, 0, 0), 1);
        due.is("about(1)", x.about(1), 0);
        due.is("acts", x.about(12), 6);
        due.is("cost", x.about(9), 0);
        due.is("clock", x.about(10), 0);
        x.watch(7);
        x.set(1, 7, 5);
        due.is("set() of a watched cell is no reason", x.plan(0), 0);
        due.is("halt", x.plan(3), 3);
        due.is("the same place", x.set(2, 0, 1), 1);
        due.is("goes on", x.about(3), 0);
    }

    private static void setErrors() {
        SideStep x = Due.coded("Ci01h");
        String before = Due.picture(x);
        due.is("set(-1, 0, 0)", x.set(-1, 0, 0), -2);
        due.is("set(3, 9, 0)", x.set(3, 9, 0), -2);
        due.is("set(MIN, 0, 0)", x.set(Integer.MIN_VALUE, 0, 0), -2);
        due.is("set(MAX, 0, 0)", x.set(Integer.MAX_VALUE, 0, 0), -2);
        int[][] unknown = {{0, 4, 0}, {0, -1, 0}, {1, 8, 0}, {1, -1, 0}, {2, 0, 2}, {2, 0, -1}, {2, 1, 0},
            {2, -1, 0}, {0, Integer.MAX_VALUE, 0}, {1, Integer.MIN_VALUE, 0}, {2, 0, Integer.MAX_VALUE},
            {2, 0, Integer.MIN_VALUE}};
        for (int[] u : unknown) {
            due.is("set(" + u[0] + ", " + u[1] + ", " + u[2] + ")", x.set(u[0], u[1], u[2]), -1);
        }
        due.isTrue("an error changes nothing", before.equals(Due.picture(x)));
        due.is("no place", Due.coded("C").set(2, 0, 0), -1);
    }

    private static void smash() {
        SideStep x = Due.coded("Ci01o0j-2h");
        due.is("smash", x.smash(1, -9, 0, 0, 0), 1);
        x.plan(3);
        x.plan(3);
        due.is("hits", x.broken(1, 5), 2);
        due.is("smash", x.smash(1, 3, 2, 9, 9), 2);
        due.is("hits stay", x.broken(1, 5), 2);
        due.is("register", x.broken(1, 1), 3);
        due.is("how", x.broken(1, 2), 2);
        due.is("f", x.broken(1, 3), 9);
        due.is("ignore count", x.broken(1, 4), 9);
        due.is("smash", x.smash(1, 0, 0, 0, 0), 3);
        due.is("ignore count", x.broken(1, 4), 0);
        due.is("how", x.broken(1, 2), 0);
        due.is("full", x.smash(1, 0, 1, 1, 1), -4);
        due.is("condition stays", x.broken(1, 3), 0);
        x.lift(1);
        x.lift(1);
        x.lift(1);
        due.is("smash", x.smash(1, -9, 77, -77, 4), 1);
        due.is("hits begin anew", x.broken(1, 5), 0);
        due.is("acts", x.about(12), 9);
        due.is("other places", x.about(6), 2);
    }

    private static void smashErrors() {
        SideStep x = Due.coded("Ci01h");
        String before = Due.picture(x);
        due.is("smash(2, ..)", x.smash(2, -9, 0, 0, 0), -1);
        due.is("smash(-1, ..)", x.smash(-1, -9, 0, 0, 0), -1);
        due.is("smash(2, 4, ..)", x.smash(2, 4, 0, 0, 0), -1);
        due.is("smash(MAX, ..)", x.smash(Integer.MAX_VALUE, 0, 0, 0, 0), -1);
        due.is("smash(MIN, ..)", x.smash(Integer.MIN_VALUE, 0, 0, 0, 0), -1);
        int[][] bad = {{4, 0, 0, 0}, {-1, 0, 0, 0}, {-8, 0, 0, 0}, {-10, 0, 0, 0}, {0, -1, 0, 0}, {0, 3, 0, 0},
            {0, 0, -1, 0}, {0, 0, 10, 0}, {0, 0, 0, -1}, {0, 0, 0, 10}, {-9, 0, 0, -1}, {-9, 0, 0, 10},
            {Integer.MAX_VALUE, 0, 0, 0}, {0, Integer.MIN_VALUE, 0, 0}, {0, 0, Integer.MAX_VALUE, 0}};
        for (int[] b : bad) {
            due.is("smash with r " + b[0] + ", how " + b[1] + ", f " + b[2] + ", by " + b[3],
                x.smash(0, b[0], b[1], b[2], b[3]), -2);
        }
        due.isTrue("an error changes nothing", before.equals(Due.picture(x)));
        x.smash(0, 3, 2, 9, 9);
        x.smash(0, 3, 2, 9, 9);
        x.smash(0, 3, 2, 9, 9);
        before = Due.picture(x);
        due.is("bad before full", x.smash(0, 4, 0, 0, 0), -2);
        due.is("full", x.smash(0, -9, 0, 0, 0), -4);
        due.isTrue("full changes nothing", before.equals(Due.picture(x)));
    }

    private static void lift() {
        SideStep x = Due.coded("Ci01o0j-2h");
        due.is("lift(1) of none", x.lift(1), -3);
        due.is("lift(4)", x.lift(4), -1);
        due.is("lift(-1)", x.lift(-1), -1);
        due.is("lift(MAX)", x.lift(Integer.MAX_VALUE), -1);
        due.is("lift(MIN)", x.lift(Integer.MIN_VALUE), -1);
        due.is("no acts", x.about(12), 0);
        x.smash(1, -9, 0, 0, 0);
        x.smash(1, 0, 1, 1, 1);
        x.plan(3);
        due.is("hits", x.broken(1, 5), 1);
        x.smash(1, 0, 1, 1, 7);
        x.smash(2, -9, 0, 0, 5);
        due.is("lift", x.lift(1), 2);
        due.is("lift", x.lift(1), 1);
        int[] stay = {1, 0, 1, 1, 7, 1};
        for (int what = 0; what <= 5; what++) {
            due.is("broken(1, " + what + ")", x.broken(1, what), stay[what]);
        }
        due.is("lift", x.lift(1), 0);
        int[] gone = {0, -9, -9, -9, 0, 0};
        for (int what = 0; what <= 5; what++) {
            due.is("broken(1, " + what + ")", x.broken(1, what), gone[what]);
        }
        due.is("lift of none", x.lift(1), -3);
        due.is("the other stays", x.broken(2, 4), 5);
        due.is("armed", x.about(6), 4);
        due.is("acts", x.about(12), 8);
    }

    private static void watch() {
        SideStep x = Due.coded("Ch");
        for (int m = 0; m < 8; m++) {
            due.is("watch", x.watch(m), 1);
        }
        due.is("all", x.about(7), 255);
        due.is("watch(3) again", x.watch(3), 0);
        due.is("all but 3", x.about(7), 255 - 8);
        due.is("watch(8)", x.watch(8), -1);
        due.is("watch(-1)", x.watch(-1), -1);
        due.is("watch(32)", x.watch(32), -1);
        due.is("watch(MAX)", x.watch(Integer.MAX_VALUE), -1);
        due.is("watch(MIN)", x.watch(Integer.MIN_VALUE), -1);
        due.is("acts", x.about(12), 9);
    }

    private static void undoEachAct() {
        SideStep x = Due.coded("Ci05o0s01c06o0hk3o3bh");
        x.smash(1, 0, 1, 5, 1);
        x.smash(3, -9, 0, 0, 0);
        x.watch(1);
        String[] before = new String[14];
        for (int i = 0; i < 10; i++) {
            before[i] = Due.picture(x);
            act(x, i);
            due.isTrue("act " + i + " changes", !before[i].equals(Due.picture(x)));
        }
        for (int i = 9; i >= 0; i--) {
            due.is("undo()", x.undo(), i + 3);
            due.isTrue("undo() of act " + i, before[i].equals(Due.picture(x)));
        }
    }

    private static void act(SideStep x, int i) {
        switch (i) {
            case 0: x.plan(3); break;
            case 1: x.plan(3); break;
            case 2: x.plan(0); break;
            case 3: x.set(0, 2, 9); break;
            case 4: x.set(1, 2, 9); break;
            case 5: x.smash(8, 1, 2, 3, 4); break;
            case 6: x.lift(1); break;
            case 7: x.watch(1); break;
            case 8: x.plan(3); break;
            default: x.set(2, 0, 0); break;
        }
    }

    private static void undoStackAndCopies() {
        SideStep x = Due.coded("Cc04c04hhb");
        x.plan(0);
        due.is("stack(0)", x.stack(0), 1);
        x.plan(0);
        x.plan(0);
        due.is("stack(0)", x.stack(0), 2);
        x.undo();
        x.undo();
        due.is("stack(0)", x.stack(0), 1);
        SideStep y = Due.coded("Ci00i01i02i03i04h");
        for (int place = 1; place <= 4; place++) {
            y.smash(place, -9, 0, 0, 0);
        }
        for (int i = 0; i < 5; i++) {
            y.plan(0);
        }
        due.is("copy(0)", y.copy(0), 2);
        y.undo();
        for (int i = 0; i < 3; i++) {
            due.is("copy(" + i + ")", y.copy(i), i + 1);
        }
    }

    private static void undoAtMost14() {
        SideStep x = Due.coded("Ch");
        for (int i = 1; i <= 40; i++) {
            x.set(0, 0, i);
            due.is("acts", x.about(12), Math.min(i, 14));
        }
        for (int i = 13; i >= 0; i--) {
            due.is("undo()", x.undo(), i);
            due.is("register(0)", x.register(0), 26 + i);
        }
        due.is("undo() of none", x.undo(), -3);
        due.is("register(0)", x.register(0), 26);
    }

    private static void undoAndActAgain() {
        SideStep x = Due.coded("Ch");
        for (int i = 1; i <= 20; i++) {
            x.set(0, 0, i);
        }
        x.undo();
        x.undo();
        x.undo();
        due.is("register(0)", x.register(0), 17);
        x.set(0, 0, 100);
        x.set(0, 0, 101);
        due.is("acts", x.about(12), 13);
        x.undo();
        due.is("register(0)", x.register(0), 100);
        x.undo();
        due.is("register(0)", x.register(0), 17);
        x.undo();
        due.is("register(0)", x.register(0), 16);
        x.see(3, 1);
        x.seed(4);
        x.write('C');
        x.keep(1);
        x.undo();
        due.is("sights stay", x.about(13), 1);
        due.is("seed stays", x.seed(0), 4);
        due.is("text stays", x.about(14), 3);
        due.is("slot stays", x.again(1), 0);
        due.is("register(0)", x.register(0), 16);
        x.set(1, 1, 1);
        x.lift(0);
        x.watch(9);
        x.plan(7);
        x.set(9, 9, 9);
        due.is("errors are no acts", x.about(12), 1);
    }
}
