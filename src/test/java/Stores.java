/** The stores that the tests of sentences begin with. */
final class Stores {
    private Stores() {
    }

    /** 4 lines with the key 1 and no spare medium; no medium is worn out and the gap hardly moves. */
    static GapLines calm() {
        return calm(4);
    }

    static GapLines calm(int n) {
        return Check.store(n, 1, 0, 999, 50);
    }

    /** The example of Check with a text, the same state in the save slot 1, and 8 states remembered. */
    static GapLines rich() {
        GapLines x = Check.example();
        Check.type(x, "L04");
        x.save(1);
        return x;
    }

    /** The same, dead. */
    static GapLines dead() {
        GapLines x = Check.exampleDead();
        Check.type(x, "L04");
        x.save(1);
        return x;
    }

    /** A store whose gap has moved so often, by as many writes of the line 0. */
    static GapLines moved(int n, int key, int moves) {
        GapLines x = Check.store(n, key, 4, 999, 1);
        hammer(x, moves);
        return x;
    }

    /** Writes the line 0 so often, also more than 500 times. */
    static void hammer(GapLines x, int times) {
        for (int left = times; left > 0; left -= 500) {
            x.hammer(0, Math.min(left, 500));
        }
    }

    /** An object with so many states remembered: the setting 0 was made 101, 102, and so on. */
    static GapLines remembering(int states) {
        GapLines x = new GapLines();
        for (int i = 1; i <= states; i++) {
            x.set(0, 100 + i);
        }
        return x;
    }

    /** The gap is at the place 3, whose medium bears one more to be laid there; each write moves the gap. */
    static GapLines gapAtThree(int spares) {
        GapLines x = Check.store(4, 1, spares, 5, 50);
        x.hammer(3, 4);
        x.set(1, 1);
        x.write(0, 76);
        return x;
    }

    /** The gap is at the place 0, whose medium bears one more to be laid there; each write moves the gap. */
    static GapLines gapAtZero(int spares) {
        GapLines x = Check.store(4, 1, spares, 5, 50);
        x.hammer(0, 4);
        x.set(1, 1);
        x.hammer(3, 4);
        return x;
    }

    static GapLines fullText() {
        GapLines x = rich();
        Check.type(x, "L04010" + "a1".repeat(57));
        return x;
    }

    /** All that the object holds: the state, the text, the remembered states and the slots; x is of no use then. */
    static String whole(GapLines x) {
        StringBuilder s = new StringBuilder(Check.seen(x));
        s.append(" text ").append(x.errorPosition()).append(' ').append(x.clearText()).append(" remembered");
        String left = Check.outcome(x::undo);
        for (int i = 0; i < 20 && !left.endsWith("Exception"); i++) {
            s.append(' ').append(left).append(':').append(inShort(x));
            left = Check.outcome(x::undo);
        }
        for (int slot = 0; slot <= 1; slot++) {
            int one = slot;
            s.append(" slot ").append(Check.outcome(() -> x.restore(one))).append(':').append(inShort(x));
        }
        return s.toString();
    }

    private static String inShort(GapLines x) {
        return x.about(0) + "/" + x.about(4) + "/" + x.setting(0) + "/" + x.setting(1);
    }
}
