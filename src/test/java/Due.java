/** Compares answers with those that are due, and ends a test. */
final class Due {
    private int wrong;
    private String sentence = "";

    /** Names the sentence of the document that is looked at from here on. */
    void of(String itsSentence) {
        sentence = itsSentence + ": ";
    }

    void is(String call, long got, long want) {
        if (got != want) {
            wrong++;
            System.out.println(sentence + call + " answered " + got + ", due is " + want);
        }
    }

    void isTrue(String what, boolean holds) {
        is(what, holds ? 1 : 0, 1);
    }

    void end() {
        if (wrong != 0) {
            System.out.println(wrong + " answers are not as due");
            System.exit(1);
        }
    }

    /** Replaces the text. */
    static void write(SideStep x, String text) {
        x.wipe();
        for (int i = 0; i < text.length(); i++) {
            x.write(text.charAt(i));
        }
    }

    /** A new object with a program. */
    static SideStep coded(String text) {
        SideStep x = new SideStep();
        write(x, text);
        if (x.code() < 0) {
            throw new IllegalStateException("no program: " + text);
        }
        return x;
    }

    /** Compares all that broken() answers for a place. */
    void brokenIs(SideStep x, int place, int... want) {
        for (int what = 0; what <= 5; what++) {
            is("broken(" + place + ", " + what + ")", x.broken(place, what), want[what]);
        }
    }

    /** Performs the plan ONE a number of times. */
    static void steps(SideStep x, int many) {
        for (int i = 0; i < many; i++) {
            x.plan(0);
        }
    }

    /** All that can be asked of the present state without changing it. */
    static String picture(SideStep x) {
        long seed = x.seed(0);
        x.seed(seed);
        return kept(x) + " acts " + x.about(12) + " sights " + x.about(13) + " text " + x.about(14) + " seed " + seed;
    }

    /** The part of it that a slot keeps. */
    static String kept(SideStep x) {
        StringBuilder all = new StringBuilder();
        for (int what = 0; what <= 11; what++) {
            all.append(x.about(what)).append(' ');
        }
        for (int r = 0; r < 4; r++) {
            all.append('r').append(x.register(r)).append(' ');
        }
        for (int i = 0; i < 8; i++) {
            all.append('c').append(x.cell(i)).append(" s").append(x.stack(i)).append(' ');
        }
        for (int place = 0; place < 16; place++) {
            for (int what = 0; what <= 5; what++) {
                all.append(x.broken(place, what)).append(what == 5 ? '|' : ',');
            }
        }
        for (int i = 0; i < 3; i++) {
            all.append(" k").append(x.copy(i));
        }
        return all.toString();
    }
}
