/** Promises 18 to 20: aside, free, judge. */
public final class QuestionTest {
    private static final Due due = new Due();

    public static void main(String[] args) {
        aside();
        asideFaults();
        free();
        freeLimit();
        judgeErrors();
        judgeStatements();
        judgePerforms();
        nothingChanges();
        due.end();
    }

    private static void asideRow(SideStep x, int place, int... want) {
        for (int what = 0; what <= 3; what++) {
            due.is("aside(" + place + ", " + what + ")", x.aside(place, what), want[what]);
        }
    }

    private static void aside() {
        SideStep x = Due.coded("Ci01+01-01l00s00j-9j+9z0+4z1-4c13bk0o0h");
        x.set(0, 1, 1);
        for (int place = 0; place <= 4; place++) {
            asideRow(x, place, 21, -9, -9, 1);
        }
        asideRow(x, 5, 11, -9, -9, 1);
        asideRow(x, 6, 29, -9, -9, 1);
        asideRow(x, 7, 24, -9, -9, 1);
        asideRow(x, 8, 21, -9, -9, 1);
        asideRow(x, 9, 13, 21, -9, 2);
        asideRow(x, 10, -9, -9, -9, 0);
        asideRow(x, 11, 21, -9, 21, 5);
        asideRow(x, 12, 21, -9, -9, 1);
        asideRow(x, 13, 20, -9, -9, 0);
        x.set(0, 0, 3);
        x.set(0, 1, 0);
        asideRow(x, 7, 21, -9, -9, 1);
        asideRow(x, 8, 16, -9, -9, 1);
        for (int wrong : new int[] {-1, 14, 20, Integer.MAX_VALUE, Integer.MIN_VALUE}) {
            due.is("aside(" + wrong + ", 0)", x.aside(wrong, 0), -1);
            due.is("aside(" + wrong + ", 4)", x.aside(wrong, 4), -1);
        }
        for (int wrong : new int[] {-1, 4, Integer.MAX_VALUE, Integer.MIN_VALUE}) {
            due.is("aside(0, " + wrong + ")", x.aside(0, wrong), -2);
        }
    }

    private static void asideFaults() {
        SideStep x = Due.coded("Cc01c02c03c04c05c06c07c08bh");
        for (int calls = 0; calls < 8; calls++) {
            asideRow(x, 4, 5, 21, -9, 2);
            asideRow(x, 8, calls == 0 ? -9 : calls, -9, -9, 0);
            x.plan(0);
        }
        due.is("stack", x.about(2), 8);
        asideRow(x, 4, -9, -9, -9, 2);
        asideRow(x, 8, 8, -9, -9, 0);
        x.set(2, 0, 9);
        x.plan(0);
        asideRow(x, 9, 20, -9, -9, 0);
        asideRow(x, 8, 8, -9, -9, 0);
    }

    private static void freeRow(SideStep x, int... want) {
        for (int what = 0; what <= 3; what++) {
            due.is("free(" + what + ")", x.free(what), want[what]);
        }
    }

    private static void free() {
        SideStep x = Due.coded("Ci05o0o0h");
        x.smash(1, -9, 0, 0, 0);
        x.smash(3, -9, 0, 0, 0);
        freeRow(x, 3, 4, 2, 31 * 5 + 5);
        x.plan(3);
        x.plan(0);
        freeRow(x, 3, 2, 2, 31 * 5 + 5);
        x.plan(3);
        x.plan(3);
        freeRow(x, 3, 0, 2, 31 * 5 + 5);
        x.set(2, 0, 2);
        freeRow(x, 3, 2, 3, 31 * (31 * 5 + 5) + 5);
        SideStep y = Due.coded("Ci05o0s00b");
        y.watch(0);
        freeRow(y, 4, 3, 1, 5);
        freeRow(Due.coded("C"), 4, 0, 0, 0);
        freeRow(Due.coded("Co0j-9"), 4, 2, 1, 0);
        freeRow(Due.coded("Cc00"), 4, 8, 0, 0);
        freeRow(Due.coded("Cj-9"), 4, 1, 0, 0);
        for (int wrong : new int[] {-1, 4, Integer.MAX_VALUE, Integer.MIN_VALUE}) {
            due.is("free(" + wrong + ")", x.free(wrong), -2);
        }
    }

    private static void freeLimit() {
        freeRow(Due.coded("Cj+0"), 5, 300, 0, 0);
        freeRow(Due.coded("Co0j-1"), 5, 300, 150, 0);
        // Three steps a round and two at the end: the HALT, or the fault, is the step 300 or later.
        SideStep x = Due.coded("C+01z0+2j-2h");
        x.set(0, 1, 1);
        x.set(0, 0, -100);
        freeRow(x, 3, 300, 0, 0);
        x.set(0, 0, -101);
        freeRow(x, 5, 300, 0, 0);
        x.set(0, 0, -99);
        freeRow(x, 3, 297, 0, 0);
        SideStep y = Due.coded("C+01z0+2j-2i09b");
        y.set(0, 1, 1);
        y.set(0, 0, -99);
        freeRow(y, 4, 297, 0, 0);
        y.set(0, 0, -100);
        freeRow(y, 5, 300, 0, 0);
    }

    private static void judgeErrors() {
        SideStep x = Due.coded("Ch");
        due.is("judge(0, 0)", x.judge(0, 0), -2);
        due.is("judge(5, 0)", x.judge(5, 0), -2);
        due.is("judge(-1, 0)", x.judge(-1, 0), -2);
        due.is("judge(MAX, 0)", x.judge(Integer.MAX_VALUE, 0), -2);
        due.is("judge(MIN, 0)", x.judge(Integer.MIN_VALUE, 0), -2);
        long[] most = {1000L, 1000000L, 1000000000L, 1000000000000L};
        for (int n = 1; n <= 4; n++) {
            due.is("one digit more", x.judge(n, most[n - 1]), -2);
            due.is("no digit more", x.judge(n, most[n - 1] - 1), 0);
            due.is("negative", x.judge(n, -1), -2);
            due.is("MAX", x.judge(n, Long.MAX_VALUE), -2);
            due.is("MIN", x.judge(n, Long.MIN_VALUE), -2);
            due.is("zeros", x.judge(n, 0), 0);
        }
    }

    private static void judgeStatements() {
        SideStep x = Due.coded("Ci13o1c04hk2b");
        String[] right = {"100", "101", "103", "200", "205", "300", "400", "430", "500", "507", "600", "700"};
        for (String s : right) {
            due.is("judge " + s, x.judge(1, Long.parseLong(s)), s.equals("103") ? 0 : -9);
        }
        String[] wrong = {"000", "099", "102", "104", "109", "110", "190", "206", "299", "301", "310", "401",
            "440", "490", "508", "510", "601", "610", "609", "701", "710", "800", "900", "999"};
        for (String s : wrong) {
            due.is("judge " + s, x.judge(1, Long.parseLong(s)), 0);
        }
        x.plan(0);
        x.plan(0);
        x.plan(0);
        String[] then = {"102", "304", "413", "601", "701"};
        for (String s : then) {
            due.is("judge " + s, x.judge(1, Long.parseLong(s)), -9);
        }
        due.is("four of them", x.judge(4, 304413601701L), -9);
        due.is("the last is wrong", x.judge(4, 304413601702L), 3);
        due.is("the third is wrong", x.judge(4, 304413602702L), 2);
        due.is("the second is wrong", x.judge(4, 304412601701L), 1);
        due.is("the first is wrong", x.judge(4, 305413601701L), 0);
        SideStep y = Due.coded("Co0j-1");
        for (int i = 0; i < 3; i++) {
            y.plan(3);
        }
        due.is("puts", y.about(4), 149);
        due.is("two digits alone", y.judge(1, 749), 0);
        SideStep z = Due.coded("Co0o0o0o0o0o0o0o0o0o0o0o0h");
        z.plan(3);
        due.is("twelve", z.judge(1, 712), -9);
        due.is("counter twelve", z.judge(1, 312), -9);
        due.is("a plan after a halt", z.judge(1, 100), 0);
    }

    private static void judgePerforms() {
        SideStep x = Due.coded("Ci05s03o0j-2h");
        due.is("breaks and runs", x.judge(4, 203103303405L), -9);
        due.is("stops twice", x.judge(4, 203103103303L), -9);
        due.is("runs on without a breakpoint", x.judge(1, 103), 0);
        due.is("stops for a watched cell", x.judge(3, 503203103L), 2);
        due.is("watched twice is not watched", x.judge(4, 503503203103L), -9);
        due.is("puts of two plans", x.judge(4, 203103103702L), -9);
        due.is("not of three", x.judge(4, 203103103703L), 3);
        due.is("three breakpoints and no more", x.judge(4, 201201201201L), 3);
        x.smash(3, 0, 1, 9, 9);
        due.is("a condition goes", x.judge(3, 203103303L), -9);
        x.smash(3, 0, 1, 9, 9);
        x.smash(3, 0, 1, 9, 9);
        due.is("no fourth", x.judge(1, 203), 0);
        due.is("ignore counts do not come back", x.judge(2, 103103L), 0);
        SideStep y = Due.coded("Cc02hb");
        due.is("into a call, and FINISH", y.judge(4, 100601102600L), -9);
        due.is("FINISH with an empty stack", y.judge(2, 600102L), 1);
        due.is("OVER", y.judge(3, 101301600L), -9);
        due.is("halts", y.judge(2, 101100L), 1);
        due.is("faults", Due.coded("Cb").judge(1, 100), 0);
        due.is("AA has no instruction", y.judge(1, 203), 0);
    }

    private static void nothingChanges() {
        SideStep x = Due.coded("Ci05s03o0c06hk1b");
        x.smash(2, -9, 0, 0, 1);
        x.smash(3, -9, 0, 0, 0);
        x.watch(5);
        x.plan(3);
        String before = Due.picture(x);
        for (int what = 0; what <= 3; what++) {
            x.free(what);
            x.aside(3, what);
            x.aside(6, what);
        }
        x.judge(4, 204503100103L);
        x.judge(4, 203203507102L);
        x.judge(4, 103103103103L);
        x.which();
        x.share(2, true);
        x.chance(1, 5, false);
        x.keep(0);
        x.fault();
        due.isTrue("questions change nothing", before.equals(Due.picture(x)));
    }
}
