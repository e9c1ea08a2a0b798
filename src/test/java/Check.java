/** What the tests share: it counts wrong answers and ends with the exit code 1 if there was one. */
final class Check {
    static final Class<IllegalArgumentException> ARGUMENT = IllegalArgumentException.class;
    static final Class<IllegalStateException> STATE = IllegalStateException.class;
    static final Class<IndexOutOfBoundsException> INDEX = IndexOutOfBoundsException.class;

    interface Call {
        long answer();
    }

    private int wrong;

    void answers(String call, long due, Call made) {
        String got = outcome(made);
        if (!got.equals(Long.toString(due))) {
            tell(call + " answered " + got + ", due is " + due);
        }
    }

    /** The call has to throw an exception of this very class, not of one below it. */
    void fails(String call, Class<? extends RuntimeException> due, Call made) {
        String got = outcome(made);
        if (!got.equals(due.getName())) {
            tell(call + " answered " + got + ", due is " + due.getName());
        }
    }

    void same(String what, String due, String got) {
        if (!due.equals(got)) {
            tell(what + " is\n  " + got + ", due is\n  " + due);
        }
    }

    void tell(String fault) {
        wrong++;
        System.out.println(fault);
    }

    boolean isRight() {
        return wrong == 0;
    }

    void end() {
        if (wrong != 0) {
            System.out.println(wrong + " answers are not as due");
            System.exit(1);
        }
    }

    static String outcome(Call made) {
        try {
            return Long.toString(made.answer());
        } catch (RuntimeException e) {
            return e.getClass().getName();
        }
    }

    static GapLines store(int n, int key, int spares) {
        GapLines x = new GapLines();
        x.make(n, key, spares);
        return x;
    }

    static GapLines store(int n, int key, int spares, int endurance, int every) {
        GapLines x = new GapLines();
        x.set(0, endurance);
        x.set(1, every);
        x.make(n, key, spares);
        return x;
    }

    static GapLines text(String text) {
        GapLines x = new GapLines();
        type(x, text);
        return x;
    }

    static void type(GapLines x, String text) {
        x.clearText();
        for (int i = 0; i < text.length(); i++) {
            x.append(text.charAt(i));
        }
    }

    static GapLines loaded(String text) {
        GapLines x = text(text);
        x.load();
        return x;
    }

    /** Everything of the present state that can be seen without an action. */
    static String seen(GapLines x) {
        StringBuilder s = new StringBuilder("about");
        for (int what = 0; what <= 11; what++) {
            s.append(' ').append(x.about(what));
        }
        s.append(" settings ").append(x.setting(0)).append(' ').append(x.setting(1)).append(" lines");
        for (int l = 0; l < x.about(0); l++) {
            s.append(' ').append(x.read(l)).append('@').append(x.place(l));
        }
        s.append(" places");
        for (int p = 0; x.about(0) > 0 && p <= x.about(0); p++) {
            s.append(' ').append(x.line(p)).append('/').append(x.wear(p));
        }
        return s.toString();
    }

    /**
     * The example of many tests: 4 lines with the key 1, endurance 5, the gap moves by 2 writes, one spare medium,
     * 7 writes and 3 moves. The wears are 1 (replaced), 0, 1, 1, 3; the gap is the place 1.
     */
    static GapLines example() {
        GapLines x = store(4, 1, 1, 5, 2);
        x.write(0, 7);
        x.write(0, 8);
        x.write(3, 9);
        x.write(3, 9);
        x.hammer(0, 3);
        return x;
    }

    static final String EXAMPLE = "about 4 0 1 0 7 3 3 0 1 0 1 11 settings 5 2"
            + " lines 8@0 0@2 0@3 9@4 places 0/1 -1/0 1/1 2/1 3/3";

    /** The example, three writes later: the gap has gone round once, and the start is 1. */
    static GapLines exampleBehindRound() {
        GapLines x = example();
        x.hammer(0, 3);
        return x;
    }

    static final String BEHIND_ROUND = "about 4 1 4 0 10 5 3 1 0 0 1 16 settings 5 2"
            + " lines 8@1 0@2 0@3 9@0 places 3/3 0/3 1/1 2/1 -1/3";

    /** The example dead, by two writes more of the line 3; the second one does not move the gap. */
    static GapLines exampleDead() {
        GapLines x = exampleBehindRound();
        x.write(3, 10);
        x.write(3, 11);
        return x;
    }

    static final String DEAD = "about 4 1 4 0 12 5 5 1 2 1 1 18 settings 5 2"
            + " lines 8@1 0@2 0@3 11@0 places 3/5 0/3 1/1 2/1 -1/3";
}
