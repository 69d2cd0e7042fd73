import java.util.Arrays;

/** A debugger for a small machine; it executes the instruction under a breakpoint from a copy. */
public final class SideStep {
    public static final int UNKNOWN = -1, BAD = -2, LATE = -3, FULL = -4, NONE = -9;

    private static final int REGISTERS = 4, CELLS = 8, DEPTH = 8, PLACES = 16, LETTERS = 80;
    private static final int COPIES = 3, ACTS = 14, SLOTS = 2, SIGHTS = 6;
    private static final int PLAN_STEPS = 99, FREE_STEPS = 300, STOPS = 20, SHARERS = 6;

    // An instruction's kind is its letter in the text.
    private static final int SET = 'i', ADD = '+', SUB = '-', LOAD = 'l', SAVE = 's', JUMP = 'j';
    private static final int ZERO = 'z', CALL = 'c', RETURN = 'b', LINK = 'k', PUT = 'o', HALT = 'h';
    private static final String KINDS = "i+-lsjzcbkoh";

    private static final int ONE = 0, OVER = 1, FINISH = 2, RUN = 3;
    private static final int DONE = 0, BREAK = 1, CHANGE = 2, HALTED = 3, FAULTED = 4, LIMIT = 5;
    private static final int GOES_ON = -1;

    // The properties of a place's breakpoints, numbered as broken() numbers them.
    private static final int NUMBER = 0, REGISTER = 1, HOW = 2, THAN = 3, IGNORE = 4, HITS = 5;
    private static final int PROPERTIES = 6, MOST_BREAKS = 3;

    /** Where aside() supposes that an instruction is executed. */
    private static final int ASIDE = 20;

    private final Text text = new Text();
    private final Program program = new Program();
    private final Program draft = new Program();
    private final State now = new State();
    private final State trial = new State();
    private final History history = new History();
    private final State[] slots = new State[SLOTS];
    private final boolean[] kept = new boolean[SLOTS];
    private final Sights sights = new Sights();
    private final FreeRun run = new FreeRun();
    private final Stops stops = new Stops();
    private long seed;

    public SideStep() {
        for (int i = 0; i < SLOTS; i++) {
            slots[i] = new State();
        }
    }

    // ---- the code

    public int write(int letter) {
        if (letter < 0 || letter > 255) {
            return BAD;
        }
        if (text.length >= LETTERS) {
            return FULL;
        }
        text.letters[text.length] = letter;
        text.length++;
        return text.length;
    }

    public int wipe() {
        int had = text.length;
        text.length = 0;
        return had;
    }

    public int fault() {
        return text.readInto(draft);
    }

    public int code() {
        if (text.readInto(draft) != NONE) {
            return LATE;
        }
        text.readInto(program);
        now.begin();
        history.clear();
        emptySlots();
        return program.size;
    }

    private void emptySlots() {
        for (int i = 0; i < SLOTS; i++) {
            kept[i] = false;
        }
    }

    public int about(int what) {
        switch (what) {
            case 0: return program.size;
            case 1: return now.machine.counter;
            case 2: return now.machine.depth;
            case 3: return now.machine.halted ? 1 : 0;
            case 4: return now.machine.puts;
            case 5: return now.machine.digest;
            case 6: return now.breaks.armedSet();
            case 7: return now.watched;
            case 8: return now.copyCount;
            case 9: return now.cost;
            case 10: return now.clock;
            case 11: return program.different();
            case 12: return history.held;
            case 13: return sights.count;
            case 14: return text.length;
            default: return BAD;
        }
    }

    public int register(int r) {
        return isRegister(r) ? now.machine.registers[r] : UNKNOWN;
    }

    public int cell(int m) {
        return isCell(m) ? now.machine.cells[m] : UNKNOWN;
    }

    public int stack(int i) {
        return i >= 0 && i < now.machine.depth ? now.machine.stack[i] : NONE;
    }

    public int broken(int place, int what) {
        if (!program.has(place)) {
            return UNKNOWN;
        }
        if (what < 0 || what >= PROPERTIES) {
            return BAD;
        }
        return now.breaks.property(place, what);
    }

    public int copy(int i) {
        return i >= 0 && i < now.copyCount ? now.copies[i] : NONE;
    }

    // ---- acts

    public int plan(int plan) {
        if (plan < ONE || plan > RUN) {
            return BAD;
        }
        if (!now.allows(plan)) {
            return LATE;
        }
        history.remember(now);
        return now.perform(plan, program);
    }

    public int set(int what, int k, int v) {
        switch (what) {
            case 0: return isRegister(k) ? exchange(now.machine.registers, k, v) : UNKNOWN;
            case 1: return isCell(k) ? exchange(now.machine.cells, k, v) : UNKNOWN;
            case 2: return k == 0 && program.has(v) ? moveCounter(v) : UNKNOWN;
            default: return BAD;
        }
    }

    private int exchange(int[] row, int k, int v) {
        history.remember(now);
        int before = row[k];
        row[k] = v;
        return before;
    }

    private int moveCounter(int place) {
        history.remember(now);
        int before = now.machine.counter;
        now.machine.counter = place;
        now.machine.halted = false;
        return before;
    }

    public int smash(int place, int r, int how, int f, int by) {
        if (!program.has(place)) {
            return UNKNOWN;
        }
        boolean conditionFits = r == NONE || isRegister(r) && how >= 0 && how <= 2 && f >= 0 && f <= 9;
        if (!conditionFits || by < 0 || by > 9) {
            return BAD;
        }
        if (now.breaks.isFull(place)) {
            return FULL;
        }
        history.remember(now);
        now.breaks.add(place, r, how, f, by);
        return now.breaks.property(place, NUMBER);
    }

    public int lift(int place) {
        if (!program.has(place)) {
            return UNKNOWN;
        }
        if (!now.breaks.isArmed(place)) {
            return LATE;
        }
        history.remember(now);
        now.breaks.remove(place);
        return now.breaks.property(place, NUMBER);
    }

    public int watch(int m) {
        if (!isCell(m)) {
            return UNKNOWN;
        }
        history.remember(now);
        now.turnWatch(m);
        return now.isWatched(m) ? 1 : 0;
    }

    public int undo() {
        if (history.held == 0) {
            return LATE;
        }
        history.takeBack(now);
        return history.held;
    }

    // ---- questions (nothing changes)

    public int aside(int place, int what) {
        if (!program.has(place)) {
            return UNKNOWN;
        }
        int kind = program.kind[place];
        switch (what) {
            case 0: return followsAside(place);
            case 1: return kind == CALL && now.machine.depth < DEPTH ? ASIDE + 1 : NONE;
            case 2: return kind == LINK ? ASIDE + 1 : NONE;
            case 3: return corrections(kind);
            default: return BAD;
        }
    }

    private int followsAside(int place) {
        Machine machine = now.machine;
        int second = program.second[place];
        switch (program.kind[place]) {
            case JUMP: return ASIDE + second;
            case ZERO: return machine.registers[program.first[place]] == 0 ? ASIDE + second : ASIDE + 1;
            case CALL: return machine.depth < DEPTH ? second : NONE;
            case RETURN: return machine.depth > 0 ? machine.stack[machine.depth - 1] : NONE;
            case HALT: return ASIDE;
            default: return ASIDE + 1;
        }
    }

    private static int corrections(int kind) {
        switch (kind) {
            case CALL: return 2;
            case RETURN: return 0;
            case HALT: return 0;
            case LINK: return 1 + 4;
            default: return 1;
        }
    }

    public int free(int what) {
        if (what < 0 || what > 3) {
            return BAD;
        }
        run.prepare(now.machine);
        run.go(program, NONE);
        switch (what) {
            case 0: return run.reason;
            case 1: return run.steps;
            case 2: return run.machine.puts;
            default: return run.machine.digest;
        }
    }

    public int judge(int n, long row) {
        if (n < 1 || n > 4 || row < 0 || row >= power(1000, n)) {
            return BAD;
        }
        trial.takeFrom(now);
        for (int i = 0; i < n; i++) {
            int statement = statementAt(row, n - 1 - i);
            if (!holds(statement / 100, statement / 10 % 10, statement % 10)) {
                return i;
            }
        }
        return NONE;
    }

    /** The statement that has fromEnd others behind it. */
    private static int statementAt(long row, int fromEnd) {
        long rest = row;
        for (int i = 0; i < fromEnd; i++) {
            rest /= 1000;
        }
        return (int) (rest % 1000);
    }

    /** Whether a statement is true of the trial, which it may move on. */
    private boolean holds(int first, int second, int third) {
        int pair = 10 * second + third;
        switch (first) {
            case 1: return second == 0 && third <= RUN && isGood(trial.perform(third, program));
            case 2: return program.has(pair) && takesBreak(pair);
            case 3: return trial.machine.counter == pair;
            case 4: return isRegister(second) && trial.machine.registers[second] == third;
            case 5: return second == 0 && isCell(third) && trial.turnWatch(third);
            case 6: return second == 0 && trial.machine.depth == third;
            case 7: return trial.machine.puts == pair;
            default: return false;
        }
    }

    private static boolean isGood(int reason) {
        return reason == DONE || reason == BREAK;
    }

    private boolean takesBreak(int place) {
        if (trial.breaks.isFull(place)) {
            return false;
        }
        trial.breaks.add(place, NONE, NONE, NONE, 0);
        return true;
    }

    // ---- seen

    public int see(int n, int was) {
        if (n < 0 || n > 99 || was < 0 || was > 1) {
            return BAD;
        }
        if (sights.count >= SIGHTS) {
            return FULL;
        }
        sights.add(n, was == 1);
        return sights.count;
    }

    public int unsee() {
        int were = sights.count;
        sights.count = 0;
        return were;
    }

    public int which() {
        int places = 0;
        for (int place = 0; place < program.size; place++) {
            run.prepare(now.machine);
            run.go(program, place);
            if (sights.areTrue(run.machine.puts)) {
                places |= 1 << place;
            }
        }
        return places;
    }

    // ---- shares, probabilities

    public int share(int place, boolean upper) {
        if (!program.has(place)) {
            return UNKNOWN;
        }
        if (!now.breaks.isArmed(place) || now.breaks.armedCount() > SHARERS) {
            return LATE;
        }
        stops.measure(now, program);
        int whole = factorial(stops.count);
        return partOf(stops.weightedGain(place), whole, upper);
    }

    public int chance(int v, int x, boolean upper) {
        if (v < 0 || v > STOPS || x < 0 || x > 10) {
            return BAD;
        }
        if (now.breaks.armedCount() > SHARERS) {
            return LATE;
        }
        stops.measure(now, program);
        int whole = (int) power(10, stops.count);
        return partOf(stops.weightOfAtLeast(v, x), whole, upper);
    }

    public long seed(long v) {
        long before = seed;
        seed = v;
        return before;
    }

    public int drawn(int m) {
        if (m < 1 || m > 10) {
            return BAD;
        }
        int steps = 0;
        for (int i = 0; i < m; i++) {
            seed = seed * 6364136223846793005L + 1442695040888963407L;
            run.prepare(now.machine);
            run.machine.scatter((int) (seed >>> 33));
            run.go(program, NONE);
            steps += run.steps;
        }
        return steps;
    }

    // ---- slots

    public int keep(int slot) {
        if (!isSlot(slot)) {
            return UNKNOWN;
        }
        slots[slot].takeFrom(now);
        kept[slot] = true;
        return now.clock;
    }

    public int again(int slot) {
        if (!isSlot(slot)) {
            return UNKNOWN;
        }
        if (!kept[slot]) {
            return LATE;
        }
        now.takeFrom(slots[slot]);
        history.clear();
        return now.clock;
    }

    // ---- ranges and numbers

    private static boolean isRegister(int r) {
        return r >= 0 && r < REGISTERS;
    }

    private static boolean isCell(int m) {
        return m >= 0 && m < CELLS;
    }

    private static boolean isSlot(int slot) {
        return slot >= 0 && slot < SLOTS;
    }

    private static long power(int base, int exponent) {
        long product = 1;
        for (int i = 0; i < exponent; i++) {
            product *= base;
        }
        return product;
    }

    private static int factorial(int n) {
        int product = 1;
        for (int i = 2; i <= n; i++) {
            product *= i;
        }
        return product;
    }

    /** A part of numerator / denominator in lowest terms; the denominator is positive. */
    private static int partOf(int numerator, int denominator, boolean upper) {
        int divisor = commonDivisor(Math.abs(numerator), denominator);
        if (divisor == 0) {
            return 0;
        }
        return upper ? numerator / divisor : denominator / divisor;
    }

    private static int commonDivisor(int a, int b) {
        int larger = a;
        int smaller = b;
        // Euclid's rule needs fewer than 50 rounds for any two ints.
        for (int i = 0; i < 50 && smaller != 0; i++) {
            int rest = larger % smaller;
            larger = smaller;
            smaller = rest;
        }
        return larger;
    }

    /** The characters of a program that is being written. */
    private static final class Text {
        final int[] letters = new int[LETTERS];
        int length;

        /** Fills the program as far as the text can be read; answers the text's fault, or NONE. */
        int readInto(Program program) {
            program.size = 0;
            if (length == 0 || letters[0] != 'C') {
                return 0;
            }
            int at = 1;
            for (int n = 0; n <= PLACES && at < length; n++) {
                int kind = letters[at];
                if (n == PLACES || KINDS.indexOf((char) kind) < 0) {
                    return at;
                }
                String form = formOf(kind);
                int end = endOfMatch(at + 1, form);
                if (end < at + 1 + form.length()) {
                    return end;
                }
                addInstruction(kind, at + 1, program);
                at = end;
            }
            return NONE;
        }

        /** The signs behind an instruction's letter: see fits(). */
        private static String formOf(int kind) {
            switch (kind) {
                case SET: return "rf";
                case ADD: return "rr";
                case SUB: return "rr";
                case LOAD: return "rm";
                case SAVE: return "rm";
                case JUMP: return "sf";
                case ZERO: return "rsf";
                case CALL: return "tu";
                case LINK: return "r";
                case PUT: return "r";
                default: return "";
            }
        }

        /** The index behind the form, or of the first character that does not fit it. */
        private int endOfMatch(int from, String form) {
            for (int i = 0; i < form.length(); i++) {
                int at = from + i;
                if (at >= length || !fits(form.charAt(i), at)) {
                    return at;
                }
            }
            return from + form.length();
        }

        private boolean fits(char sign, int at) {
            int letter = letters[at];
            switch (sign) {
                case 's': return letter == '+' || letter == '-';
                case 'r': return letter >= '0' && letter <= '3';
                case 'm': return letter >= '0' && letter <= '7';
                case 't': return letter == '0' || letter == '1';
                case 'u': return letter >= '0' && letter <= (letters[at - 1] == '1' ? '5' : '9');
                default: return letter >= '0' && letter <= '9';
            }
        }

        private void addInstruction(int kind, int at, Program program) {
            switch (kind) {
                case JUMP: program.add(kind, 0, distance(at)); break;
                case ZERO: program.add(kind, digit(at), distance(at + 1)); break;
                case CALL: program.add(kind, 0, 10 * digit(at) + digit(at + 1)); break;
                case RETURN: program.add(kind, 0, 0); break;
                case HALT: program.add(kind, 0, 0); break;
                case LINK: program.add(kind, digit(at), 0); break;
                case PUT: program.add(kind, digit(at), 0); break;
                default: program.add(kind, digit(at), digit(at + 1)); break;
            }
        }

        private int distance(int at) {
            return letters[at] == '-' ? -digit(at + 1) : digit(at + 1);
        }

        private int digit(int at) {
            return letters[at] - '0';
        }
    }

    /** The instructions; first is the register r, second what follows it (q, m, f, d or a). */
    private static final class Program {
        final int[] kind = new int[PLACES];
        final int[] first = new int[PLACES];
        final int[] second = new int[PLACES];
        /** The smallest place with an equal instruction: it stands for the instruction itself. */
        final int[] model = new int[PLACES];
        int size;

        boolean has(int place) {
            return place >= 0 && place < size;
        }

        void add(int itsKind, int itsFirst, int itsSecond) {
            if (size >= PLACES) {
                return;
            }
            kind[size] = itsKind;
            first[size] = itsFirst;
            second[size] = itsSecond;
            model[size] = modelOf(size);
            size++;
        }

        private int modelOf(int place) {
            for (int p = 0; p < place; p++) {
                if (kind[p] == kind[place] && first[p] == first[place] && second[p] == second[place]) {
                    return p;
                }
            }
            return place;
        }

        int different() {
            int models = 0;
            for (int p = 0; p < size; p++) {
                if (model[p] == p) {
                    models++;
                }
            }
            return models;
        }

        /** The cell that the instruction of a place writes, or NONE. */
        int savedCell(int place) {
            return has(place) && kind[place] == SAVE ? second[place] : NONE;
        }
    }

    /** The machine, the numbers that it put out included. */
    private static final class Machine {
        final int[] registers = new int[REGISTERS];
        final int[] cells = new int[CELLS];
        final int[] stack = new int[DEPTH];
        int depth;
        int counter;
        boolean halted;
        int puts;
        int digest;

        void begin() {
            Arrays.fill(registers, 0);
            Arrays.fill(cells, 0);
            depth = 0;
            counter = 0;
            halted = false;
            puts = 0;
            digest = 0;
        }

        void takeFrom(Machine other) {
            System.arraycopy(other.registers, 0, registers, 0, REGISTERS);
            System.arraycopy(other.cells, 0, cells, 0, CELLS);
            System.arraycopy(other.stack, 0, stack, 0, DEPTH);
            depth = other.depth;
            counter = other.counter;
            halted = other.halted;
            puts = other.puts;
            digest = other.digest;
        }

        /** Sets the registers from a random number. */
        void scatter(int v) {
            for (int r = 0; r < REGISTERS; r++) {
                registers[r] = v >> (4 * r) & 15;
            }
        }

        /** Executes an instruction; false if it faults, and then nothing is done. */
        boolean step(Program program) {
            int place = counter;
            if (!program.has(place)) {
                return false;
            }
            int r = program.first[place];
            int second = program.second[place];
            int next = place + 1;
            switch (program.kind[place]) {
                case SET: registers[r] = second; break;
                case ADD: registers[r] += registers[second]; break;
                case SUB: registers[r] -= registers[second]; break;
                case LOAD: registers[r] = cells[second]; break;
                case SAVE: cells[second] = registers[r]; break;
                case JUMP: next = place + second; break;
                case ZERO: next = registers[r] == 0 ? place + second : next; break;
                case LINK: registers[r] = next; break;
                case PUT: putOut(registers[r]); break;
                case CALL:
                    if (depth >= DEPTH) {
                        return false;
                    }
                    stack[depth] = next;
                    depth++;
                    next = second;
                    break;
                case RETURN:
                    if (depth <= 0) {
                        return false;
                    }
                    depth--;
                    next = stack[depth];
                    break;
                default:
                    halted = true;
                    next = place;
                    break;
            }
            counter = next;
            return true;
        }

        private void putOut(int number) {
            puts++;
            digest = 31 * digest + number;
        }
    }

    /** The breakpoints of all places; what is not there holds what broken() answers for it. */
    private static final class Breaks {
        private final int[] properties = new int[PLACES * PROPERTIES];

        Breaks() {
            begin();
        }

        void begin() {
            for (int place = 0; place < PLACES; place++) {
                disarm(place);
            }
        }

        void takeFrom(Breaks other) {
            System.arraycopy(other.properties, 0, properties, 0, PLACES * PROPERTIES);
        }

        int property(int place, int what) {
            return properties[place * PROPERTIES + what];
        }

        private void disarm(int place) {
            int base = place * PROPERTIES;
            properties[base + NUMBER] = 0;
            properties[base + REGISTER] = NONE;
            properties[base + HOW] = NONE;
            properties[base + THAN] = NONE;
            properties[base + IGNORE] = 0;
            properties[base + HITS] = 0;
        }

        boolean isArmed(int place) {
            return place >= 0 && place < PLACES && properties[place * PROPERTIES + NUMBER] > 0;
        }

        boolean isFull(int place) {
            return property(place, NUMBER) >= MOST_BREAKS;
        }

        void add(int place, int r, int how, int f, int by) {
            int base = place * PROPERTIES;
            properties[base + NUMBER]++;
            properties[base + REGISTER] = r;
            properties[base + HOW] = r == NONE ? NONE : how;
            properties[base + THAN] = r == NONE ? NONE : f;
            properties[base + IGNORE] = by;
        }

        void remove(int place) {
            if (property(place, NUMBER) <= 1) {
                disarm(place);
            } else {
                properties[place * PROPERTIES + NUMBER]--;
            }
        }

        int armedSet() {
            int places = 0;
            for (int place = 0; place < PLACES; place++) {
                if (isArmed(place)) {
                    places |= 1 << place;
                }
            }
            return places;
        }

        int armedCount() {
            return Integer.bitCount(armedSet());
        }

        /** Whether the place at the machine's counter is armed and applies. */
        boolean apply(Machine machine) {
            int place = machine.counter;
            if (!isArmed(place)) {
                return false;
            }
            int base = place * PROPERTIES;
            int r = properties[base + REGISTER];
            if (!isRegister(r)) {
                return true;
            }
            int value = machine.registers[r];
            int than = properties[base + THAN];
            switch (properties[base + HOW]) {
                case 0: return value < than;
                case 1: return value == than;
                default: return value > than;
            }
        }

        /** Whether a plan must stop at the machine's counter; counts the hit, or that it is ignored. */
        boolean stop(Machine machine) {
            if (!apply(machine)) {
                return false;
            }
            int base = machine.counter * PROPERTIES;
            if (properties[base + IGNORE] > 0) {
                properties[base + IGNORE]--;
                return false;
            }
            properties[base + HITS]++;
            return true;
        }
    }

    /** All that acts change, that undo() brings back and that slots keep. */
    private static final class State {
        final Machine machine = new Machine();
        final Breaks breaks = new Breaks();
        /** The models of the copied instructions, the oldest first. */
        final int[] copies = new int[COPIES];
        int copyCount;
        int watched;
        int cost;
        int clock;

        void begin() {
            machine.begin();
            breaks.begin();
            copyCount = 0;
            watched = 0;
            cost = 0;
            clock = 0;
        }

        void takeFrom(State other) {
            machine.takeFrom(other.machine);
            breaks.takeFrom(other.breaks);
            System.arraycopy(other.copies, 0, copies, 0, COPIES);
            copyCount = other.copyCount;
            watched = other.watched;
            cost = other.cost;
            clock = other.clock;
        }

        boolean isWatched(int m) {
            return isCell(m) && (watched >> m & 1) == 1;
        }

        /** Begins or stops to watch a cell; true, for this is always possible. */
        boolean turnWatch(int m) {
            watched ^= 1 << m;
            return true;
        }

        boolean allows(int plan) {
            return plan != FINISH || machine.depth > 0;
        }

        /** Performs a plan; answers the reason for which it stopped, or LATE if it is not possible. */
        int perform(int plan, Program program) {
            if (!allows(plan)) {
                return LATE;
            }
            if (machine.halted) {
                return HALTED;
            }
            int depthBefore = machine.depth;
            for (int steps = 0; steps < PLAN_STEPS; steps++) {
                int reason = reasonAfterStep(program);
                if (reason != GOES_ON) {
                    return reason;
                }
                if (isDone(plan, depthBefore)) {
                    return DONE;
                }
            }
            return LIMIT;
        }

        private boolean isDone(int plan, int depthBefore) {
            switch (plan) {
                case ONE: return true;
                case OVER: return machine.depth <= depthBefore;
                case FINISH: return machine.depth < depthBefore;
                default: return false;
            }
        }

        /** Makes a step; the reason to stop that does not depend on the plan, or GOES_ON. */
        private int reasonAfterStep(Program program) {
            int place = machine.counter;
            int target = program.savedCell(place);
            int before = isCell(target) ? machine.cells[target] : 0;
            if (!machine.step(program)) {
                return FAULTED;
            }
            charge(place, program);
            if (machine.halted) {
                return HALTED;
            }
            if (isWatched(target) && machine.cells[target] != before) {
                return CHANGE;
            }
            return breaks.stop(machine) ? BREAK : GOES_ON;
        }

        /** Counts a step that was made at a place. */
        private void charge(int place, Program program) {
            clock++;
            cost += Integer.bitCount(watched) > 2 ? 10 : 1;
            if (breaks.isArmed(place)) {
                cost += 3;
                keepCopy(program.model[place]);
            }
        }

        private void keepCopy(int model) {
            for (int i = 0; i < copyCount; i++) {
                if (copies[i] == model) {
                    return;
                }
            }
            if (copyCount == COPIES) {
                System.arraycopy(copies, 1, copies, 0, COPIES - 1);
                copyCount--;
            }
            copies[copyCount] = model;
            copyCount++;
        }
    }

    /** The states before the latest acts, in a ring. */
    private static final class History {
        private final State[] ring = new State[ACTS];
        private int next;
        int held;

        History() {
            for (int i = 0; i < ACTS; i++) {
                ring[i] = new State();
            }
        }

        void clear() {
            held = 0;
        }

        void remember(State state) {
            ring[next].takeFrom(state);
            next = (next + 1) % ACTS;
            held = Math.min(held + 1, ACTS);
        }

        /** Puts the latest remembered state back; there must be one. */
        void takeBack(State state) {
            next = (next + ACTS - 1) % ACTS;
            state.takeFrom(ring[next]);
            held--;
        }
    }

    /** A run of a copy of the machine, without breakpoints and watched cells. */
    private static final class FreeRun {
        final Machine machine = new Machine();
        int steps;
        int reason;

        void prepare(Machine from) {
            machine.takeFrom(from);
        }

        /** Runs the prepared machine; the instruction of the place idle (NONE: of none) does nothing. */
        void go(Program program, int idle) {
            steps = 0;
            reason = machine.halted ? HALTED : GOES_ON;
            for (int i = 0; i < FREE_STEPS && reason == GOES_ON; i++) {
                // The counter can be NONE too, where there is no instruction.
                if (machine.counter == idle && program.has(idle)) {
                    machine.counter++;
                } else if (!machine.step(program)) {
                    reason = FAULTED;
                    return;
                }
                steps++;
                reason = machine.halted ? HALTED : GOES_ON;
            }
            reason = reason == GOES_ON ? LIMIT : reason;
        }
    }

    /** What is known of free runs in which one instruction does nothing. */
    private static final class Sights {
        private final int[] number = new int[SIGHTS];
        private final boolean[] was = new boolean[SIGHTS];
        int count;

        void add(int itsNumber, boolean itWas) {
            if (count >= SIGHTS) {
                return;
            }
            number[count] = itsNumber;
            was[count] = itWas;
            count++;
        }

        boolean areTrue(int puts) {
            for (int i = 0; i < count; i++) {
                if ((puts == number[i]) != was[i]) {
                    return false;
                }
            }
            return true;
        }
    }

    /**
     * The number of stops with each set of the armed places. Breakpoints do not change what the
     * machine does, so that one trail of steps serves all sets.
     */
    private static final class Stops {
        private static final int TRAIL = STOPS * PLAN_STEPS;

        private final Machine machine = new Machine();
        private final int[] places = new int[SHARERS];
        private final int[] ignores = new int[SHARERS];
        private final int[] left = new int[SHARERS];
        /** For each step: which of the armed places applies after it, or NONE. */
        private final int[] trail = new int[TRAIL];
        private final int[] values = new int[1 << SHARERS];
        private int length;
        int count;

        /** Finds the value of each set; at most SHARERS places may be armed. */
        void measure(State state, Program program) {
            list(state.breaks);
            follow(state, program);
            for (int set = 0; set < 1 << count; set++) {
                values[set] = valueOf(set);
            }
        }

        private void list(Breaks breaks) {
            count = 0;
            for (int place = 0; place < PLACES && count < SHARERS; place++) {
                if (breaks.isArmed(place)) {
                    places[count] = place;
                    ignores[count] = breaks.property(place, IGNORE);
                    count++;
                }
            }
        }

        private void follow(State state, Program program) {
            machine.takeFrom(state.machine);
            length = 0;
            for (int i = 0; i < TRAIL && !machine.halted; i++) {
                if (!machine.step(program)) {
                    return;
                }
                // A halt is a reason before a breakpoint is.
                boolean applies = !machine.halted && state.breaks.apply(machine);
                trail[i] = applies ? indexOf(machine.counter) : NONE;
                length = i + 1;
            }
        }

        private int indexOf(int place) {
            for (int i = 0; i < count; i++) {
                if (places[i] == place) {
                    return i;
                }
            }
            return NONE;
        }

        private int valueOf(int set) {
            System.arraycopy(ignores, 0, left, 0, SHARERS);
            int found = 0;
            int steps = 0;
            for (int i = 0; i < length && found < STOPS && steps < PLAN_STEPS; i++) {
                steps++;
                int index = trail[i];
                if (index < 0 || (set >> index & 1) == 0) {
                    continue;
                }
                if (left[index] > 0) {
                    left[index]--;
                } else {
                    found++;
                    steps = 0;
                }
            }
            return found;
        }

        /** The sum of what a place adds, over all sequences of the armed places. */
        int weightedGain(int place) {
            int index = indexOf(place);
            if (index < 0) {
                return 0;
            }
            int bit = 1 << index;
            int sum = 0;
            for (int set = 0; set < 1 << count; set++) {
                if ((set & bit) == 0) {
                    int before = Integer.bitCount(set);
                    int sequences = factorial(before) * factorial(count - 1 - before);
                    sum += sequences * (values[set | bit] - values[set]);
                }
            }
            return sum;
        }

        /** 10 to the count, times the probability that at least v stops are left. */
        int weightOfAtLeast(int v, int x) {
            long sum = 0;
            for (int set = 0; set < 1 << count; set++) {
                if (values[set] >= v) {
                    int armed = Integer.bitCount(set);
                    sum += power(10 - x, armed) * power(x, count - armed);
                }
            }
            return (int) sum;
        }
    }
}
