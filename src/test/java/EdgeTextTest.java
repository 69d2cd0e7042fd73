/** The boundary cases of THE TEXT and of promises 1 to 5, a test for each sentence. */
public final class EdgeTextTest {
    private static final Due due = new Due();

    /** Each instruction's letter, and for each sign behind it the signs that can stand there. */
    private static final String[][] FORMS = {
        {"i", "0123", "0123456789"}, {"+", "0123", "0123"}, {"-", "0123", "0123"}, {"l", "0123", "01234567"},
        {"s", "0123", "01234567"}, {"j", "+-", "0123456789"}, {"z", "0123", "+-", "0123456789"},
        {"c", "0", "0123456789"}, {"c", "1", "012345"}, {"b"}, {"k", "0123"}, {"o", "0123"}, {"h"}};

    public static void main(String[] args) {
        newObject();
        letterRange();
        textFull();
        badBeforeFull();
        wipe();
        faultOfTheFirst();
        faultOfALetter();
        faultOfEachSign();
        faultOfAnEarlyEnd();
        faultOfASeventeenth();
        faultOfAFullText();
        noneForAProgram();
        codeReturns();
        codeLate();
        codeReplaces();
        codeDisarmsEachPlace();
        codeKeepsTextSightsSeed();
        due.end();
    }

    private static SideStep written(String text) {
        SideStep x = new SideStep();
        Due.write(x, text);
        return x;
    }

    private static void newObject() {
        due.of("promise 1: a machine without instructions; the text is empty, the seed is 0");
        SideStep x = new SideStep();
        for (int what = 0; what <= 14; what++) {
            due.is("about(" + what + ")", x.about(what), 0);
        }
        due.is("seed", x.seed(0), 0);
        due.is("fault()", x.fault(), 0);
        due.is("broken(0, 0)", x.broken(0, 0), -1);
        due.is("set(2, 0, 0)", x.set(2, 0, 0), -1);
        due.is("which()", x.which(), 0);
    }

    private static void letterRange() {
        due.of("promise 2: letter is 0 to 255, otherwise BAD");
        SideStep x = new SideStep();
        due.is("write(-1)", x.write(-1), -2);
        due.is("length", x.about(14), 0);
        due.is("write(0)", x.write(0), 1);
        due.is("write(255)", x.write(255), 2);
        due.is("write(256)", x.write(256), -2);
        due.is("write(256 + 'C')", x.write(256 + 'C'), -2);
        due.is("write(MAX)", x.write(Integer.MAX_VALUE), -2);
        due.is("write(MIN)", x.write(Integer.MIN_VALUE), -2);
        due.is("length", x.about(14), 2);
    }

    private static void textFull() {
        due.of("promise 2: FULL if the text has 80 characters");
        SideStep x = new SideStep();
        for (int length = 1; length <= 80; length++) {
            due.is("write", x.write('C'), length);
        }
        due.is("the 81st", x.write('C'), -4);
        due.is("the 81st again", x.write('h'), -4);
        due.is("length", x.about(14), 80);
        due.is("wipe()", x.wipe(), 80);
        due.is("write", x.write('C'), 1);
    }

    private static void badBeforeFull() {
        due.of("promise 2: BAD is checked before FULL");
        SideStep x = written("h".repeat(80));
        due.is("write(-1)", x.write(-1), -2);
        due.is("write(256)", x.write(256), -2);
        due.is("write(0)", x.write(0), -4);
        due.is("write(255)", x.write(255), -4);
        due.is("length", x.about(14), 80);
    }

    private static void wipe() {
        due.of("promise 3: empties the text and returns the length that it had");
        due.is("wipe() of none", new SideStep().wipe(), 0);
        for (int length : new int[] {1, 79, 80}) {
            SideStep x = written("h".repeat(length));
            due.is("wipe()", x.wipe(), length);
            due.is("length", x.about(14), 0);
            due.is("fault()", x.fault(), 0);
            due.is("wipe() again", x.wipe(), 0);
        }
    }

    private static void faultOfTheFirst() {
        due.of("a program is written as C, followed by zero or more instructions");
        due.is("an empty text: a character is required", written("").fault(), 0);
        for (int letter = 0; letter <= 255; letter++) {
            SideStep x = new SideStep();
            x.write(letter);
            due.is("fault() of " + letter, x.fault(), letter == 'C' ? -9 : 0);
        }
    }

    private static boolean startsAnInstruction(int letter) {
        return letter > 0 && "i+-lsjzcbkoh".indexOf(letter) >= 0;
    }

    private static void faultOfALetter() {
        due.of("the index of the first character that cannot stand there: an instruction's letter");
        for (int letter = 0; letter <= 255; letter++) {
            boolean complete = letter == 'b' || letter == 'h';
            SideStep x = written("C" + (char) letter);
            due.is("fault() of C and " + letter, x.fault(),
                complete ? -9 : startsAnInstruction(letter) ? 2 : 1);
            SideStep y = written("Cz0+1h" + (char) letter);
            due.is("fault() of Cz0+1h and " + letter, y.fault(),
                complete ? -9 : startsAnInstruction(letter) ? 7 : 6);
        }
    }

    private static void faultOfEachSign() {
        due.of("r, q, m and f are digits in their ranges; + or -; 00 to 15");
        for (String[] form : FORMS) {
            String start = "C" + form[0];
            for (int at = 1; at < form.length; at++) {
                for (int letter = 0; letter <= 255; letter++) {
                    // After c both 0 and 1 can stand, each with other digits behind it.
                    String fitting = form[0].equals("c") && at == 1 ? "01" : form[at];
                    boolean fits = fitting.indexOf(letter) >= 0;
                    int whole = at + 1 == form.length ? -9 : start.length() + 1;
                    due.is("fault() of " + start + " and " + letter, written(start + (char) letter).fault(),
                        fits ? whole : start.length());
                }
                start += form[at].charAt(form[at].length() - 1);
            }
            due.is("fault() of " + start, written(start).fault(), -9);
        }
    }

    private static void faultOfAnEarlyEnd() {
        due.of("the length of the text if a further character is required");
        String text = "C";
        due.is("fault() of C", written(text).fault(), -9);
        for (String[] form : FORMS) {
            text += form[0];
            for (int at = 1; at < form.length; at++) {
                due.is("fault() of " + text, written(text).fault(), text.length());
                text += form[at].charAt(0);
            }
            due.is("fault() of " + text, written(text).fault(), -9);
        }
        String fifteen = "C" + "z3-9".repeat(15);
        due.is("in the sixteenth", written(fifteen + "z3-").fault(), 64);
        due.is("the sixteenth", written(fifteen + "z3-9").fault(), -9);
    }

    private static void faultOfASeventeenth() {
        due.of("also of a seventeenth instruction: its letter");
        for (String[] form : FORMS) {
            StringBuilder one = new StringBuilder(form[0]);
            for (int at = 1; at < form.length; at++) {
                one.append(form[at].charAt(0));
            }
            String sixteen = "C" + one.toString().repeat(16);
            due.is("fault() of " + sixteen, written(sixteen).fault(), -9);
            due.is("code() of " + sixteen, written(sixteen).code(), 16);
            due.is("its letter alone", written(sixteen + form[0]).fault(), sixteen.length());
            due.is("the whole", written(sixteen + one).fault(), sixteen.length());
            due.is("another letter", written(sixteen + "x").fault(), sixteen.length());
            due.is("a digit", written(sixteen + "0").fault(), sixteen.length());
            due.is("code() of seventeen", written(sixteen + one).code(), -3);
        }
    }

    private static void faultOfAFullText() {
        due.of("the text is a buffer of at most 80 characters");
        due.is("no C", written("h".repeat(80)).fault(), 0);
        due.is("C and 79 instructions", written("C" + "h".repeat(79)).fault(), 17);
        due.is("the longest program and 15 more", written("C" + "z0+1".repeat(16) + "o".repeat(15)).fault(), 65);
        String almost = "C" + "z0+1".repeat(15);
        due.is("a sixteenth that does not fit", written(almost + "z0+" + "-".repeat(16)).fault(), 64);
        SideStep x = written(almost + "z0+" + "-".repeat(16));
        due.is("length", x.about(14), 80);
        due.is("what is refused is no part of the text", x.write('1'), -4);
        due.is("fault()", x.fault(), 64);
    }

    private static void noneForAProgram() {
        due.of("promise 4: NONE if the text is a program");
        due.is("no instruction", written("C").fault(), -9);
        due.is("one", written("Ch").fault(), -9);
        due.is("sixteen", written("C" + "b".repeat(16)).fault(), -9);
        due.is("the longest", written("C" + "z3-9".repeat(16)).fault(), -9);
        SideStep x = written("Ch");
        due.is("fault()", x.fault(), -9);
        due.is("fault() changes nothing", x.fault(), -9);
        due.is("about(0)", x.about(0), 0);
    }

    private static void codeReturns() {
        due.of("promise 5: returns the number of instructions");
        for (int size = 0; size <= 16; size++) {
            SideStep x = written("C" + "k1".repeat(size));
            due.is("code()", x.code(), size);
            due.is("about(0)", x.about(0), size);
            due.is("broken of the last", x.broken(size - 1, 0), size == 0 ? -1 : 0);
            due.is("broken of the first that is not there", x.broken(size, 0), -1);
        }
    }

    private static void codeLate() {
        due.of("promise 5: LATE if the text has a fault");
        SideStep x = Due.coded("Ci05o0h");
        x.smash(2, 0, 1, 5, 0);
        x.watch(3);
        x.plan(3);
        x.keep(1);
        String before = Due.kept(x);
        String[] wrong = {"", "c", "Cx", "Ci", "Ci0", "C" + "h".repeat(17), "h".repeat(80)};
        for (String text : wrong) {
            Due.write(x, text);
            due.is("code() of " + text, x.code(), -3);
            due.is("text stays", x.about(14), text.length());
        }
        due.isTrue("nothing has changed", before.equals(Due.kept(x)));
        due.is("acts stay", x.about(12), 3);
        due.is("the slot stays", x.again(1), 2);
    }

    private static void codeReplaces() {
        due.of("promise 5: the machine is as at the beginning; no breakpoints, copies, acts, slots");
        SideStep x = Due.coded("Ci05o0s07c04hh");
        x.smash(0, 3, 2, 9, 9);
        x.smash(1, -9, 0, 0, 0);
        x.watch(0);
        x.watch(7);
        x.keep(0);
        x.keep(1);
        for (int i = 0; i < 5; i++) {
            x.plan(3);
        }
        x.set(0, 3, -1);
        x.set(1, 0, -1);
        due.is("halted", x.about(3), 1);
        due.is("places on the stack", x.about(2), 1);
        due.is("copies", x.about(8), 2);
        due.is("code()", x.code(), 6);
        due.isTrue("as new", Due.picture(x).equals(Due.picture(Due.coded("Ci05o0s07c04hh"))));
        due.is("cost", x.about(9), 0);
        due.is("clock", x.about(10), 0);
        due.is("undo()", x.undo(), -3);
        due.is("again(0)", x.again(0), -3);
        due.is("again(1)", x.again(1), -3);
    }

    private static void codeDisarmsEachPlace() {
        due.of("promise 5: there are no breakpoints");
        SideStep x = Due.coded("C" + "i01".repeat(16));
        for (int place = 0; place < 16; place++) {
            x.smash(place, 2, 2, 3, 4);
        }
        due.is("all are armed", x.about(6), 65535);
        due.is("code()", x.code(), 16);
        due.is("none is armed", x.about(6), 0);
        for (int place = 0; place < 16; place++) {
            due.brokenIs(x, place, 0, -9, -9, -9, 0, 0);
        }
        for (int place = 0; place < 16; place++) {
            due.is("lift(" + place + ")", x.lift(place), -3);
        }
    }

    private static void codeKeepsTextSightsSeed() {
        due.of("promise 5: the text, the sights and the seed stay");
        SideStep x = written("Co0");
        x.see(1, 0);
        for (int i = 0; i < 5; i++) {
            x.see(0, 1);
        }
        x.seed(-77);
        due.is("code()", x.code(), 1);
        due.is("text", x.about(14), 3);
        due.is("fault()", x.fault(), -9);
        due.is("sights", x.about(13), 6);
        due.is("which()", x.which(), 1);
        due.is("code() again", x.code(), 1);
        due.is("seed", x.seed(0), -77);
    }
}
