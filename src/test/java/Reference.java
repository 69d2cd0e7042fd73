import java.math.BigInteger;
import java.util.ArrayDeque;
import java.util.ArrayList;
import java.util.Arrays;
import java.util.Deque;
import java.util.HashSet;
import java.util.List;
import java.util.regex.Matcher;
import java.util.regex.Pattern;

/** The document once more, without any care for speed: everything is copied, and done step by step. */
final class Reference {
    private static final Pattern INSTRUCTION = Pattern.compile(
        "i[0-3][0-9]|\\+[0-3][0-3]|-[0-3][0-3]|l[0-3][0-7]|s[0-3][0-7]|j[+-][0-9]|z[0-3][+-][0-9]"
        + "|c0[0-9]|c1[0-5]|b|k[0-3]|o[0-3]|h");
    private static final Pattern PROGRAM = Pattern.compile("C(" + INSTRUCTION.pattern() + "){0,16}");

    /** A breakpoint's place: how many, the condition (or null), the ignore count and the hits. */
    private static final class Mark {
        int many;
        int[] condition;
        int ignore;
        int hits;

        Mark twin() {
            Mark m = new Mark();
            m.many = many;
            m.condition = condition;
            m.ignore = ignore;
            m.hits = hits;
            return m;
        }
    }

    private static final class World {
        int[] registers = new int[4];
        int[] cells = new int[8];
        List<Integer> stack = new ArrayList<>();
        List<Integer> puts = new ArrayList<>();
        int counter;
        boolean halted;
        Mark[] marks = new Mark[16];
        boolean[] watched = new boolean[8];
        List<String> copies = new ArrayList<>();
        int cost;
        int clock;

        World() {
            for (int i = 0; i < 16; i++) {
                marks[i] = new Mark();
            }
        }

        World twin() {
            World w = new World();
            w.registers = registers.clone();
            w.cells = cells.clone();
            w.stack = new ArrayList<>(stack);
            w.puts = new ArrayList<>(puts);
            w.counter = counter;
            w.halted = halted;
            for (int i = 0; i < 16; i++) {
                w.marks[i] = marks[i].twin();
            }
            w.watched = watched.clone();
            w.copies = new ArrayList<>(copies);
            w.cost = cost;
            w.clock = clock;
            return w;
        }

        int digest() {
            int d = 0;
            for (int p : puts) {
                d = 31 * d + p;
            }
            return d;
        }

        int watchedCount() {
            int n = 0;
            for (boolean b : watched) {
                n += b ? 1 : 0;
            }
            return n;
        }
    }

    private String text = "";
    private List<String> program = new ArrayList<>();
    private World now = new World();
    private final Deque<World> acts = new ArrayDeque<>();
    private final World[] slots = new World[2];
    private final List<int[]> sights = new ArrayList<>();
    private long seed;

    private boolean place(int p) {
        return 0 <= p && p < program.size();
    }

    private void act() {
        acts.addLast(now);
        if (acts.size() > 14) {
            acts.removeFirst();
        }
        now = now.twin();
    }

    /** JUMP and ZERO by -0 are the same instructions as by +0. */
    private static String plain(String instruction) {
        return instruction.endsWith("-0") && "jz".indexOf(instruction.charAt(0)) >= 0
            ? instruction.replace("-0", "+0") : instruction;
    }

    // ---- the machine

    private boolean step(World w, int idle) {
        int a = w.counter;
        if (!place(a)) {
            return false;
        }
        if (a == idle) {
            w.counter++;
            return true;
        }
        String s = program.get(a);
        int r = s.length() > 1 ? s.charAt(1) - '0' : 0;
        int q = s.length() > 2 ? s.charAt(2) - '0' : 0;
        w.counter = a + 1;
        switch (s.charAt(0)) {
            case 'i' -> w.registers[r] = q;
            case '+' -> w.registers[r] = w.registers[r] + w.registers[q];
            case '-' -> w.registers[r] = w.registers[r] - w.registers[q];
            case 'l' -> w.registers[r] = w.cells[q];
            case 's' -> w.cells[q] = w.registers[r];
            case 'j' -> w.counter = a + Integer.parseInt(s.substring(1));
            case 'z' -> w.counter = w.registers[r] == 0 ? a + Integer.parseInt(s.substring(2)) : a + 1;
            case 'k' -> w.registers[r] = a + 1;
            case 'o' -> w.puts.add(w.registers[r]);
            case 'h' -> {
                w.halted = true;
                w.counter = a;
            }
            case 'c' -> {
                if (w.stack.size() == 8) {
                    w.counter = a;
                    return false;
                }
                w.stack.add(a + 1);
                w.counter = Integer.parseInt(s.substring(1));
            }
            default -> {
                if (w.stack.isEmpty()) {
                    w.counter = a;
                    return false;
                }
                w.counter = w.stack.remove(w.stack.size() - 1);
            }
        }
        return true;
    }

    private boolean applies(World w) {
        if (!place(w.counter) || w.marks[w.counter].many == 0) {
            return false;
        }
        int[] c = w.marks[w.counter].condition;
        return c == null || Integer.compare(w.registers[c[0]], c[2]) == c[1] - 1;
    }

    private int perform(World w, int plan) {
        if (w.halted) {
            return 3;
        }
        int depth = w.stack.size();
        int steps = 0;
        while (true) {
            int a = w.counter;
            int[] before = w.cells.clone();
            if (!step(w, -9)) {
                return 4;
            }
            steps++;
            w.clock++;
            w.cost += w.watchedCount() > 2 ? 10 : 1;
            if (w.marks[a].many > 0) {
                w.cost += 3;
                if (!w.copies.contains(plain(program.get(a)))) {
                    w.copies.add(plain(program.get(a)));
                    if (w.copies.size() > 3) {
                        w.copies.remove(0);
                    }
                }
            }
            if (w.halted) {
                return 3;
            }
            for (int m = 0; m < 8; m++) {
                if (w.watched[m] && before[m] != w.cells[m]) {
                    return 2;
                }
            }
            if (applies(w)) {
                Mark mark = w.marks[w.counter];
                if (mark.ignore == 0) {
                    mark.hits++;
                    return 1;
                }
                mark.ignore--;
            }
            int d = w.stack.size();
            if (plan == 0 || plan == 1 && d <= depth || plan == 2 && d < depth) {
                return 0;
            }
            if (steps == 99) {
                return 5;
            }
        }
    }

    /** Reason and steps; w becomes the state at the end. */
    private int[] freely(World w, int idle) {
        int steps = 0;
        while (true) {
            if (w.halted) {
                return new int[] {3, steps};
            }
            if (steps == 300) {
                return new int[] {5, steps};
            }
            if (!step(w, idle)) {
                return new int[] {4, steps};
            }
            steps++;
        }
    }

    // ---- the code

    int write(int letter) {
        if (letter < 0 || letter > 255) {
            return -2;
        }
        if (text.length() == 80) {
            return -4;
        }
        text += (char) letter;
        return text.length();
    }

    int wipe() {
        int n = text.length();
        text = "";
        return n;
    }

    int fault() {
        for (int i = 1; i <= text.length(); i++) {
            Matcher m = PROGRAM.matcher(text.substring(0, i));
            if (!m.matches() && !m.hitEnd()) {
                return i - 1;
            }
        }
        return PROGRAM.matcher(text).matches() ? -9 : text.length();
    }

    int code() {
        if (fault() != -9) {
            return -3;
        }
        program = new ArrayList<>();
        Matcher m = INSTRUCTION.matcher(text.substring(1));
        while (m.find()) {
            program.add(m.group());
        }
        now = new World();
        acts.clear();
        Arrays.fill(slots, null);
        return program.size();
    }

    int about(int what) {
        int set = 0;
        switch (what) {
            case 0: return program.size();
            case 1: return now.counter;
            case 2: return now.stack.size();
            case 3: return now.halted ? 1 : 0;
            case 4: return now.puts.size();
            case 5: return now.digest();
            case 6:
                for (int i = 0; i < 16; i++) {
                    set += now.marks[i].many > 0 ? 1 << i : 0;
                }
                return set;
            case 7:
                for (int i = 0; i < 8; i++) {
                    set += now.watched[i] ? 1 << i : 0;
                }
                return set;
            case 8: return now.copies.size();
            case 9: return now.cost;
            case 10: return now.clock;
            case 11:
                HashSet<String> kinds = new HashSet<>();
                for (String s : program) {
                    kinds.add(plain(s));
                }
                return kinds.size();
            case 12: return acts.size();
            case 13: return sights.size();
            case 14: return text.length();
            default: return -2;
        }
    }

    int register(int r) {
        return r < 0 || r > 3 ? -1 : now.registers[r];
    }

    int cell(int m) {
        return m < 0 || m > 7 ? -1 : now.cells[m];
    }

    int stack(int i) {
        return i < 0 || i >= now.stack.size() ? -9 : now.stack.get(i);
    }

    int broken(int p, int what) {
        if (!place(p)) {
            return -1;
        }
        if (what < 0 || what > 5) {
            return -2;
        }
        Mark m = now.marks[p];
        switch (what) {
            case 0: return m.many;
            case 4: return m.many == 0 ? 0 : m.ignore;
            case 5: return m.many == 0 ? 0 : m.hits;
            default: return m.many == 0 || m.condition == null ? -9 : m.condition[what - 1];
        }
    }

    int copy(int i) {
        if (i < 0 || i >= now.copies.size()) {
            return -9;
        }
        for (int p = 0; p < program.size(); p++) {
            if (plain(program.get(p)).equals(now.copies.get(i))) {
                return p;
            }
        }
        return -77;
    }

    // ---- acts

    int plan(int plan) {
        if (plan < 0 || plan > 3) {
            return -2;
        }
        if (plan == 2 && now.stack.isEmpty()) {
            return -3;
        }
        act();
        return perform(now, plan);
    }

    int set(int what, int k, int v) {
        if (what < 0 || what > 2) {
            return -2;
        }
        if (k < 0 || what == 0 && k > 3 || what == 1 && k > 7 || what == 2 && (k != 0 || !place(v))) {
            return -1;
        }
        act();
        int old;
        if (what == 2) {
            old = now.counter;
            now.counter = v;
            now.halted = false;
        } else {
            int[] row = what == 0 ? now.registers : now.cells;
            old = row[k];
            row[k] = v;
        }
        return old;
    }

    int smash(int p, int r, int how, int f, int by) {
        if (!place(p)) {
            return -1;
        }
        if (r != -9 && (r < 0 || r > 3 || how < 0 || how > 2 || f < 0 || f > 9) || by < 0 || by > 9) {
            return -2;
        }
        if (now.marks[p].many == 3) {
            return -4;
        }
        act();
        strike(now.marks[p], r == -9 ? null : new int[] {r, how, f}, by);
        return now.marks[p].many;
    }

    private static void strike(Mark m, int[] condition, int by) {
        m.hits = m.many == 0 ? 0 : m.hits;
        m.many++;
        m.condition = condition;
        m.ignore = by;
    }

    int lift(int p) {
        if (!place(p)) {
            return -1;
        }
        if (now.marks[p].many == 0) {
            return -3;
        }
        act();
        return --now.marks[p].many;
    }

    int watch(int m) {
        if (m < 0 || m > 7) {
            return -1;
        }
        act();
        now.watched[m] = !now.watched[m];
        return now.watched[m] ? 1 : 0;
    }

    int undo() {
        if (acts.isEmpty()) {
            return -3;
        }
        now = acts.removeLast();
        return acts.size();
    }

    // ---- questions

    int aside(int p, int what) {
        if (!place(p)) {
            return -1;
        }
        if (what < 0 || what > 3) {
            return -2;
        }
        char kind = program.get(p).charAt(0);
        if (what == 3) {
            return ("cbh".indexOf(kind) < 0 ? 1 : 0) + (kind == 'c' ? 2 : 0) + (kind == 'k' ? 4 : 0);
        }
        if (what == 2) {
            return kind == 'k' ? 21 : -9;
        }
        World w = now.twin();
        w.halted = false;
        w.counter = p;
        if (!step(w, -9)) {
            return -9;
        }
        if (what == 1) {
            return kind == 'c' ? 21 : -9;
        }
        return kind == 'c' || kind == 'b' ? w.counter : w.counter - p + 20;
    }

    int free(int what) {
        if (what < 0 || what > 3) {
            return -2;
        }
        World w = now.twin();
        int[] end = freely(w, -9);
        return what < 2 ? end[what] : what == 2 ? w.puts.size() : w.digest();
    }

    int judge(int n, long row) {
        if (n < 1 || n > 4 || row < 0 || Long.toString(row).length() > 3 * n) {
            return -2;
        }
        String digits = "0".repeat(3 * n - Long.toString(row).length()) + row;
        World w = now.twin();
        for (int i = 0; i < n; i++) {
            if (!holds(w, digits.substring(3 * i, 3 * i + 3))) {
                return i;
            }
        }
        return -9;
    }

    private boolean holds(World w, String s) {
        int number = Integer.parseInt(s.substring(1));
        int last = number % 10;
        if (s.matches("10[0-3]")) {
            if (last == 2 && w.stack.isEmpty()) {
                return false;
            }
            int reason = perform(w, last);
            return reason == 0 || reason == 1;
        }
        if (s.startsWith("2") && place(number) && w.marks[number].many < 3) {
            strike(w.marks[number], null, 0);
            return true;
        }
        if (s.matches("50[0-7]")) {
            w.watched[last] = !w.watched[last];
            return true;
        }
        return s.startsWith("3") && w.counter == number
            || s.matches("4[0-3].") && w.registers[number / 10] == last
            || s.matches("60.") && w.stack.size() == last
            || s.startsWith("7") && w.puts.size() == number;
    }

    // ---- seen

    int see(int n, int was) {
        if (n < 0 || n > 99 || was < 0 || was > 1) {
            return -2;
        }
        if (sights.size() == 6) {
            return -4;
        }
        sights.add(new int[] {n, was});
        return sights.size();
    }

    int unsee() {
        int n = sights.size();
        sights.clear();
        return n;
    }

    int which() {
        int set = 0;
        for (int p = 0; p < program.size(); p++) {
            World w = now.twin();
            freely(w, p);
            int puts = w.puts.size();
            if (sights.stream().allMatch(s -> s[1] == 1 ? puts == s[0] : puts != s[0])) {
                set += 1 << p;
            }
        }
        return set;
    }

    // ---- shares, probabilities

    private List<Integer> armed() {
        List<Integer> places = new ArrayList<>();
        for (int p = 0; p < 16; p++) {
            if (now.marks[p].many > 0) {
                places.add(p);
            }
        }
        return places;
    }

    private int value(List<Integer> set) {
        World w = now.twin();
        w.watched = new boolean[8];
        for (int p = 0; p < 16; p++) {
            if (!set.contains(p)) {
                w.marks[p] = new Mark();
            }
        }
        int stops = 0;
        while (stops < 20 && perform(w, 3) == 1) {
            stops++;
        }
        return stops;
    }

    /** The sum of the differences, over all sequences of the places that are still to come. */
    private int gains(int place, List<Integer> come, List<Integer> toCome) {
        int sum = 0;
        for (int i = 0; i < toCome.size(); i++) {
            List<Integer> rest = new ArrayList<>(toCome);
            int next = rest.remove(i);
            List<Integer> then = new ArrayList<>(come);
            then.add(next);
            if (next != place) {
                sum += gains(place, then, rest);
            } else {
                int sequences = 1;
                for (int k = 2; k <= rest.size(); k++) {
                    sequences *= k;
                }
                sum += sequences * (value(then) - value(come));
            }
        }
        return sum;
    }

    private static int part(long numerator, long denominator, boolean upper) {
        BigInteger n = BigInteger.valueOf(numerator);
        BigInteger d = BigInteger.valueOf(denominator);
        BigInteger g = n.gcd(d);
        return (upper ? n : d).divide(g).intValueExact();
    }

    int share(int p, boolean upper) {
        if (!place(p)) {
            return -1;
        }
        List<Integer> places = armed();
        if (!places.contains(p) || places.size() > 6) {
            return -3;
        }
        int sequences = 1;
        for (int k = 2; k <= places.size(); k++) {
            sequences *= k;
        }
        return part(gains(p, new ArrayList<>(), places), sequences, upper);
    }

    int chance(int v, int x, boolean upper) {
        if (v < 0 || v > 20 || x < 0 || x > 10) {
            return -2;
        }
        List<Integer> places = armed();
        if (places.size() > 6) {
            return -3;
        }
        return part(weight(v, x, places, new ArrayList<>()), (long) Math.pow(10, places.size()), upper);
    }

    private long weight(int v, int x, List<Integer> open, List<Integer> left) {
        if (open.isEmpty()) {
            return value(left) >= v ? 1 : 0;
        }
        List<Integer> rest = open.subList(1, open.size());
        List<Integer> with = new ArrayList<>(left);
        with.add(open.get(0));
        return x * weight(v, x, rest, left) + (10 - x) * weight(v, x, rest, with);
    }

    long seed(long v) {
        long old = seed;
        seed = v;
        return old;
    }

    int drawn(int m) {
        if (m < 1 || m > 10) {
            return -2;
        }
        int sum = 0;
        for (int i = 0; i < m; i++) {
            seed = seed * 6364136223846793005L + 1442695040888963407L;
            int v = (int) (seed >>> 33);
            World w = now.twin();
            for (int r = 0; r < 4; r++) {
                w.registers[r] = (v >> (4 * r)) & 15;
            }
            sum += freely(w, -9)[1];
        }
        return sum;
    }

    // ---- slots

    int keep(int slot) {
        if (slot < 0 || slot > 1) {
            return -1;
        }
        slots[slot] = now.twin();
        return now.clock;
    }

    int again(int slot) {
        if (slot < 0 || slot > 1) {
            return -1;
        }
        if (slots[slot] == null) {
            return -3;
        }
        now = slots[slot].twin();
        acts.clear();
        return now.clock;
    }
}
