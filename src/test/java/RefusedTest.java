import java.util.ArrayList;
import java.util.List;
import java.util.function.Function;
import java.util.function.Supplier;
import java.util.function.ToLongFunction;

/**
 * ERRORS: a call that returns an error changes nothing; and a question changes nothing. Each call is
 * made on a new object in a certain state, which is then looked at from all sides: from each side with
 * an object of its own, since what it holds is seen only by going on with it.
 */
public final class RefusedTest {
    private static final int MAX = Integer.MAX_VALUE;
    private static final int MIN = Integer.MIN_VALUE;
    private static final Due due = new Due();

    private record Call(String name, ToLongFunction<SideStep> make, long answer) { }

    public static void main(String[] args) {
        states();
        due.of("a call that returns an error changes nothing, in a new object");
        look(SideStep::new, refusedWhenNew());
        due.of("a call that returns an error changes nothing, in the middle of a run");
        look(RefusedTest::middle, refusedInTheMiddle());
        due.of("a call that returns an error changes nothing, where all is full");
        look(RefusedTest::full, refusedWhenFull());
        due.of("questions: nothing changes, in a new object");
        look(SideStep::new, questions(new SideStep()));
        due.of("questions: nothing changes, in the middle of a run");
        look(RefusedTest::middle, questions(middle()));
        due.of("questions: nothing changes, where all is full");
        look(RefusedTest::full, questions(full()));
        due.end();
    }

    private static void look(Supplier<SideStep> state, List<Call> calls) {
        for (Function<SideStep, String> side : sides()) {
            String before = side.apply(state.get());
            for (Call call : calls) {
                SideStep x = state.get();
                due.is(call.name(), call.make().applyAsLong(x), call.answer());
                due.isTrue(call.name() + " changes nothing", before.equals(side.apply(x)));
            }
        }
    }

    // ---- the states

    private static void states() {
        due.of("the states that are looked at");
        SideStep x = middle();
        due.is("halted", x.about(3), 1);
        due.is("stack", x.about(2), 0);
        due.is("acts", x.about(12), 4);
        SideStep y = full();
        int[][] whats = {{0, 16}, {2, 8}, {6, 65535}, {7, 255}, {8, 3}, {12, 14}, {13, 6}, {14, 80}};
        for (int[] what : whats) {
            due.is("about(" + what[0] + ")", y.about(what[0]), what[1]);
        }
    }

    /** Five instructions, halted, the stack empty, one slot kept, one place armed. */
    private static SideStep middle() {
        SideStep x = Due.coded("Ci05c03ho0b");
        x.smash(3, 0, 1, 5, 0);
        x.keep(0);
        x.plan(3);
        x.see(1, 1);
        x.see(2, 0);
        x.seed(-5);
        x.plan(2);
        x.plan(0);
        return x;
    }

    /** Sixteen instructions with three breakpoints each; text, stack, copies, acts, sights and slots are full. */
    private static SideStep full() {
        SideStep x = Due.coded("Ck0o0s07c00" + "i01".repeat(11) + "h");
        while (x.about(14) < 80) {
            x.write('h');
        }
        for (int place = 0; place < 16; place++) {
            for (int many = 0; many < 3; many++) {
                x.smash(place, many == 0 ? -9 : place % 4, place % 3, place % 10, many == 2 ? 0 : 9);
            }
        }
        for (int m = 0; m < 8; m++) {
            x.watch(m);
        }
        for (int i = 0; i < 36; i++) {
            x.plan(0);
            if (i == 10 || i == 20) {
                x.keep(i / 10 - 1);
            }
        }
        for (int sights = 0; sights < 6; sights++) {
            x.see(10 * sights, 0);
        }
        x.seed(Long.MIN_VALUE);
        return x;
    }

    // ---- the sides from which a state is looked at

    private static List<Function<SideStep, String>> sides() {
        List<Function<SideStep, String>> all = new ArrayList<>();
        all.add(Due::picture);
        for (int undone = 1; undone <= 15; undone++) {
            int many = undone;
            all.add(x -> afterUndoing(x, many));
        }
        all.add(x -> x.again(0) + Due.picture(x));
        all.add(x -> x.again(1) + Due.picture(x));
        all.add(x -> x.fault() + " " + x.code() + Due.picture(x));
        all.add(x -> x.write('h') + " " + x.fault() + " " + x.code() + Due.picture(x));
        all.add(x -> x.which() + " " + x.free(0) + " " + x.free(1) + " " + x.free(2) + " " + x.free(3));
        all.add(x -> x.drawn(3) + " " + x.seed(0));
        all.add(RefusedTest::sightsOf);
        return all;
    }

    private static String afterUndoing(SideStep x, int many) {
        StringBuilder answers = new StringBuilder();
        for (int i = 0; i < many; i++) {
            answers.append(x.undo()).append(' ');
        }
        return answers + Due.picture(x);
    }

    /** For each number of puts, whether all sights are true of it. */
    private static String sightsOf(SideStep x) {
        Due.write(x, "Co0");
        x.code();
        StringBuilder answers = new StringBuilder();
        for (int puts = 0; puts <= 99; puts++) {
            answers.append(x.which());
            x.plan(0);
            x.set(2, 0, 0);
        }
        return answers.toString();
    }

    // ---- the calls

    private static void add(List<Call> calls, String name, int answer, ToLongFunction<SideStep> make) {
        calls.add(new Call(name, make, answer));
    }

    private static List<Call> refusedWhenNew() {
        List<Call> calls = refusedAlways(0);
        add(calls, "code()", -3, x -> x.code());
        add(calls, "plan(2)", -3, x -> x.plan(2));
        add(calls, "undo()", -3, x -> x.undo());
        add(calls, "again(0)", -3, x -> x.again(0));
        add(calls, "again(1)", -3, x -> x.again(1));
        return calls;
    }

    private static List<Call> refusedInTheMiddle() {
        List<Call> calls = refusedAlways(5);
        refusedWithPlaces(calls);
        add(calls, "plan(2)", -3, x -> x.plan(2));
        add(calls, "lift(0)", -3, x -> x.lift(0));
        add(calls, "lift(4)", -3, x -> x.lift(4));
        add(calls, "share(0)", -3, x -> x.share(0, true));
        add(calls, "share(4)", -3, x -> x.share(4, false));
        add(calls, "again(1)", -3, x -> x.again(1));
        return calls;
    }

    private static List<Call> refusedWhenFull() {
        List<Call> calls = refusedAlways(16);
        refusedWithPlaces(calls);
        add(calls, "write(0)", -4, x -> x.write(0));
        add(calls, "write(255)", -4, x -> x.write(255));
        add(calls, "code()", -3, x -> x.code());
        for (int place : new int[] {0, 7, 15}) {
            add(calls, "smash(" + place + ")", -4, x -> x.smash(place, -9, 0, 0, 0));
            add(calls, "smash(" + place + ")", -4, x -> x.smash(place, 3, 2, 9, 9));
            add(calls, "share(" + place + ")", -3, x -> x.share(place, true));
        }
        add(calls, "see(0, 0)", -4, x -> x.see(0, 0));
        add(calls, "see(99, 1)", -4, x -> x.see(99, 1));
        add(calls, "chance(0, 0)", -3, x -> x.chance(0, 0, true));
        add(calls, "chance(20, 10)", -3, x -> x.chance(20, 10, false));
        return calls;
    }

    /** What is refused in each state, with a number of instructions. */
    private static List<Call> refusedAlways(int size) {
        List<Call> calls = new ArrayList<>();
        for (int wrong : new int[] {MIN, MAX}) {
            refusedOutside(calls, wrong, wrong);
        }
        refusedOutside(calls, -1, size);
        add(calls, "write(256)", -2, x -> x.write(256));
        add(calls, "about(15)", -2, x -> x.about(15));
        add(calls, "register(4)", -1, x -> x.register(4));
        add(calls, "cell(8)", -1, x -> x.cell(8));
        add(calls, "plan(4)", -2, x -> x.plan(4));
        add(calls, "set(3, 0, 0)", -2, x -> x.set(3, 0, 0));
        add(calls, "set(0, 4, 5)", -1, x -> x.set(0, 4, 5));
        add(calls, "set(1, 8, 5)", -1, x -> x.set(1, 8, 5));
        add(calls, "set(2, 1, 0)", -1, x -> x.set(2, 1, 0));
        add(calls, "watch(8)", -1, x -> x.watch(8));
        add(calls, "free(4)", -2, x -> x.free(4));
        add(calls, "judge(0, 0)", -2, x -> x.judge(0, 0));
        add(calls, "judge(5, 0)", -2, x -> x.judge(5, 0));
        add(calls, "judge(1, 1000)", -2, x -> x.judge(1, 1000));
        add(calls, "judge(4, 10 ^ 12)", -2, x -> x.judge(4, 1000000000000L));
        add(calls, "see(100, 0)", -2, x -> x.see(100, 0));
        add(calls, "see(0, 2)", -2, x -> x.see(0, 2));
        add(calls, "chance(21, 0)", -2, x -> x.chance(21, 0, true));
        add(calls, "chance(0, 11)", -2, x -> x.chance(0, 11, true));
        add(calls, "drawn(0)", -2, x -> x.drawn(0));
        add(calls, "drawn(11)", -2, x -> x.drawn(11));
        add(calls, "keep(2)", -1, x -> x.keep(2));
        add(calls, "again(2)", -1, x -> x.again(2));
        return calls;
    }

    /** Calls with a number that is in no range, and with a place that has no instruction. */
    private static void refusedOutside(List<Call> calls, int wrong, int place) {
        String of = " of " + wrong + ", " + place;
        add(calls, "write" + of, -2, x -> x.write(wrong));
        add(calls, "about" + of, -2, x -> x.about(wrong));
        add(calls, "register" + of, -1, x -> x.register(wrong));
        add(calls, "cell" + of, -1, x -> x.cell(wrong));
        add(calls, "broken" + of, -1, x -> x.broken(place, 0));
        add(calls, "plan" + of, -2, x -> x.plan(wrong));
        add(calls, "set what" + of, -2, x -> x.set(wrong, 0, 0));
        add(calls, "set register" + of, -1, x -> x.set(0, wrong, 5));
        add(calls, "set cell" + of, -1, x -> x.set(1, wrong, 5));
        add(calls, "set counter" + of, -1, x -> x.set(2, 0, place));
        add(calls, "set k" + of, -1, x -> x.set(2, wrong, 0));
        add(calls, "smash" + of, -1, x -> x.smash(place, -9, 0, 0, 0));
        add(calls, "lift" + of, -1, x -> x.lift(place));
        add(calls, "watch" + of, -1, x -> x.watch(wrong));
        add(calls, "aside" + of, -1, x -> x.aside(place, 0));
        add(calls, "free" + of, -2, x -> x.free(wrong));
        add(calls, "judge" + of, -2, x -> x.judge(wrong, 300));
        add(calls, "judge row" + of, -2, x -> x.judge(1, wrong));
        add(calls, "see" + of, -2, x -> x.see(wrong, 1));
        add(calls, "see was" + of, -2, x -> x.see(1, wrong));
        add(calls, "share" + of, -1, x -> x.share(place, true));
        add(calls, "chance v" + of, -2, x -> x.chance(wrong, 0, true));
        add(calls, "chance x" + of, -2, x -> x.chance(0, wrong, true));
        add(calls, "drawn" + of, -2, x -> x.drawn(wrong));
        add(calls, "keep" + of, -1, x -> x.keep(wrong));
        add(calls, "again" + of, -1, x -> x.again(wrong));
    }

    /** What is BAD if there is a place 0 and a place 4. */
    private static void refusedWithPlaces(List<Call> calls) {
        for (int place : new int[] {0, 4}) {
            add(calls, "broken what", -2, x -> x.broken(place, 6));
            add(calls, "broken what", -2, x -> x.broken(place, -1));
            add(calls, "aside what", -2, x -> x.aside(place, 4));
            add(calls, "aside what", -2, x -> x.aside(place, -1));
            int[][] bad = {{4, 0, 0, 0}, {-1, 0, 0, 0}, {-8, 0, 0, 0}, {-10, 0, 0, 0}, {0, -1, 0, 0},
                {0, 3, 0, 0}, {0, 0, -1, 0}, {0, 0, 10, 0}, {0, 0, 0, -1}, {0, 0, 0, 10}, {-9, 0, 0, -1},
                {-9, 0, 0, 10}, {MIN, 0, 0, 0}, {3, MAX, 9, 9}, {3, 2, MIN, 9}, {3, 2, 9, MAX}};
            for (int[] b : bad) {
                add(calls, "smash", -2, x -> x.smash(place, b[0], b[1], b[2], b[3]));
            }
        }
    }

    /** All questions, each with the answer that it has before. */
    private static List<Call> questions(SideStep untouched) {
        List<ToLongFunction<SideStep>> asked = new ArrayList<>();
        asked.add(x -> x.fault());
        asked.add(x -> x.which());
        for (int i = -1; i <= 8; i++) {
            int n = i;
            asked.add(x -> x.stack(n));
            asked.add(x -> x.copy(n));
            asked.add(x -> x.about(n + 3));
            asked.add(x -> x.register(n));
            asked.add(x -> x.cell(n));
            asked.add(x -> x.free(n));
            asked.add(x -> x.broken(3, n));
            asked.add(x -> x.aside(n, n % 4));
            asked.add(x -> x.share(n, n % 2 == 0));
            asked.add(x -> x.chance(2 * n, n, n % 2 == 0));
            asked.add(x -> x.judge(1, 100 + n));
            asked.add(x -> x.judge(2, 503200 + n));
            asked.add(x -> x.judge(4, 200103500100L + n));
        }
        List<Call> calls = new ArrayList<>();
        for (int i = 0; i < asked.size(); i++) {
            ToLongFunction<SideStep> question = asked.get(i);
            calls.add(new Call("question " + i, question, question.applyAsLong(untouched)));
        }
        return calls;
    }
}
