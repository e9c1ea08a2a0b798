public final class P23PlaceBehind {
    private static final Check C = new Check();

    /** Asks x, which stands where it is, and compares with y, whose gap is moved by writes. */
    private static void asMoved(int n, int key, int before, int line) {
        GapLines x = Check.store(n, key, 4, 999, 1);
        GapLines y = Check.store(n, key, 4, 999, 1);
        if (before > 0) {
            x.hammer(0, before);
            y.hammer(0, before);
        }
        for (int m = 0; m < 220; m++) {
            int moves = m;
            int due = y.place(line);
            C.answers("placeBehind(" + line + ", " + m + ")", due, () -> x.placeBehind(line, moves));
            y.hammer(0, 1);
        }
    }

    public static void main(String[] args) {
        asMoved(4, 1, 0, 0);
        asMoved(4, 3, 4, 3);
        asMoved(5, 2, 5, 4);
        asMoved(5, 2, 6, 1);
        asMoved(13, 8, 100, 7);
        asMoved(32, 31, 33, 31);
        // All is as before behind n * (n + 1) moves.
        GapLines x = Check.store(4, 1, 4, 999, 1);
        x.hammer(0, 7);
        for (int l = 0; l < 4; l++) {
            int line = l;
            C.answers("placeBehind(" + l + ", 9999)", x.placeBehind(l, 19), () -> x.placeBehind(line, 9999));
            C.answers("placeBehind(" + l + ", 9980)", x.place(l), () -> x.placeBehind(line, 9980));
        }
        C.answers("placeBehind(0, 9999) of a dead store", 1, () -> Check.exampleDead().placeBehind(0, 9999));
        GapLines y = Check.example();
        for (int m : new int[] {-1, 10000, Integer.MAX_VALUE, Integer.MIN_VALUE}) {
            C.fails("placeBehind(0, " + m + ")", Check.ARGUMENT, () -> y.placeBehind(0, m));
            C.fails("placeBehind(4, " + m + ")", Check.INDEX, () -> y.placeBehind(4, m));
        }
        C.fails("placeBehind(4, 0)", Check.INDEX, () -> y.placeBehind(4, 0));
        C.fails("placeBehind(-1, 0)", Check.INDEX, () -> y.placeBehind(-1, 0));
        C.fails("placeBehind(0, 0) without a store", Check.INDEX, () -> new GapLines().placeBehind(0, 0));
        y.placeBehind(0, 9999);
        C.same("the store", Check.EXAMPLE, Check.seen(y));
        C.answers("undo(): placeBehind is no action", 7, y::undo);
        C.end();
    }
}
