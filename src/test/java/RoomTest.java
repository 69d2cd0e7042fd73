import java.lang.management.ManagementFactory;

/** All calls of a run live in one room: objects are made with the SideStep, and by no call. */
public final class RoomTest {
    private static final Due due = new Due();
    private static final int ROUNDS = 2000;

    public static void main(String[] args) {
        SideStep x = new SideStep();
        round(x);
        long before = made();
        for (int i = 0; i < ROUNDS; i++) {
            round(x);
        }
        long bytesARound = (made() - before) / ROUNDS;
        // The machine itself makes something now and then; a single array a round would be more.
        due.isTrue("calls make " + bytesARound + " bytes a round", bytesARound < 16);
        before = made();
        for (int i = 0; i < 512; i++) {
            new SideStep();
        }
        long bytesAnObject = (made() - before) / 512;
        due.isTrue("an object has " + bytesAnObject + " bytes", bytesAnObject < 40000);
        due.end();
    }

    private static long made() {
        com.sun.management.ThreadMXBean bean =
            (com.sun.management.ThreadMXBean) ManagementFactory.getThreadMXBean();
        return bean.getThreadAllocatedBytes(Thread.currentThread().getId());
    }

    private static void round(SideStep x) {
        Due.write(x, "Ci03o0c05j-2hk1s10b");
        x.fault();
        x.code();
        for (int place = 1; place <= 6; place++) {
            x.smash(place, 0, 1, 3, 0);
        }
        x.watch(0);
        for (int plan = 0; plan <= 3; plan++) {
            x.plan(plan);
        }
        x.lift(6);
        x.set(0, 3, 4);
        x.undo();
        for (int what = 0; what <= 3; what++) {
            x.aside(2, what);
            x.free(what);
        }
        x.judge(4, 201103502100L);
        x.see(3, 1);
        x.which();
        x.unsee();
        x.share(1, true);
        x.chance(3, 4, false);
        x.drawn(10);
        x.keep(1);
        x.again(1);
        for (int what = 0; what <= 14; what++) {
            x.about(what);
        }
    }
}
