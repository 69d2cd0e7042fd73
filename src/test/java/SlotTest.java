/** Promises 28 and 29: keep and again. */
public final class SlotTest {
    private static final Due due = new Due();

    public static void main(String[] args) {
        errors();
        slots();
        whatIsKept();
        due.end();
    }

    private static void errors() {
        SideStep x = Due.coded("Ch");
        for (int wrong : new int[] {-1, 2, Integer.MAX_VALUE, Integer.MIN_VALUE}) {
            due.is("keep(" + wrong + ")", x.keep(wrong), -1);
            due.is("again(" + wrong + ")", x.again(wrong), -1);
        }
        due.is("again(0)", x.again(0), -3);
        due.is("again(1)", x.again(1), -3);
        due.is("keep(1)", x.keep(1), 0);
        due.is("again(0)", x.again(0), -3);
        due.is("again(1)", x.again(1), 0);
        x.watch(1);
        due.is("again(0)", x.again(0), -3);
        due.is("an error keeps the acts", x.about(12), 1);
        due.is("code()", x.code(), 1);
        due.is("again(1)", x.again(1), -3);
    }

    private static void slots() {
        SideStep x = Due.coded("Ci01o0j-1");
        x.plan(0);
        due.is("keep(0)", x.keep(0), 1);
        due.is("acts stay", x.about(12), 1);
        x.plan(0);
        x.plan(0);
        due.is("keep(1)", x.keep(1), 3);
        x.plan(0);
        due.is("again(0)", x.again(0), 1);
        due.is("no acts", x.about(12), 0);
        due.is("undo()", x.undo(), -3);
        due.is("clock", x.about(10), 1);
        x.plan(0);
        due.is("undo()", x.undo(), 0);
        due.is("clock", x.about(10), 1);
        due.is("again(1)", x.again(1), 3);
        due.is("again(1) once more", x.again(1), 3);
        due.is("again(0) once more", x.again(0), 1);
        x.plan(3);
        due.is("keep(0) anew", x.keep(0), 100);
        x.again(1);
        due.is("again(0)", x.again(0), 100);
        due.is("puts", x.about(4), 50);
    }

    private static void whatIsKept() {
        SideStep x = Due.coded("Ci05s03o0c06hhk1bh");
        x.smash(2, 0, 1, 5, 0);
        x.smash(3, -9, 0, 0, 2);
        x.smash(7, -9, 0, 0, 0);
        x.watch(5);
        x.watch(6);
        x.plan(3);
        x.plan(3);
        String kept = Due.kept(x);
        due.is("keep(0)", x.keep(0), 5);
        x.lift(2);
        x.smash(3, 1, 1, 1, 1);
        x.watch(5);
        x.watch(0);
        x.set(0, 2, 9);
        x.set(1, 2, 9);
        x.plan(3);
        x.plan(3);
        x.undo();
        due.is("again(0)", x.again(0), 5);
        due.is("acts", x.about(12), 0);
        due.isTrue("all is as it was kept", kept.equals(Due.kept(x)));
        SideStep y = Due.coded("Ch");
        y.plan(0);
        y.keep(0);
        y.set(2, 0, 0);
        y.see(1, 1);
        y.seed(6);
        y.wipe();
        due.is("again(0)", y.again(0), 1);
        due.is("halted", y.about(3), 1);
        due.is("sights stay", y.about(13), 1);
        due.is("text stays", y.about(14), 0);
        due.is("seed stays", y.seed(0), 6);
    }
}
