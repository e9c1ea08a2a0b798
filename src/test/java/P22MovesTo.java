public final class P22MovesTo {
    private static final Check C = new Check();

    private static void asMoved(int n, int key) {
        for (int moves = 0; moves <= n * (n + 1); moves += 1 + n / 6) {
            GapLines x = Check.store(n, key, 4, 999, 1);
            if (moves > 0) {
                x.hammer(0, moves);
            }
            for (int l = 0; l < n; l++) {
                int line = l;
                int from = x.place(l);
                x.save(0);
                int due = 0;
                while (x.place(l) == from) {
                    x.hammer(0, 1);
                    due++;
                }
                x.restore(0);
                int counted = due;
                C.answers("movesTo(" + l + ") behind " + moves + " moves of " + n + " lines", counted,
                        () -> x.movesTo(line));
            }
        }
    }

    public static void main(String[] args) {
        asMoved(4, 1);
        asMoved(5, 3);
        asMoved(8, 5);
        GapLines x = Check.store(6, 5, 2);
        int[] due = {6, 1, 2, 3, 4, 5};
        for (int l = 0; l < 6; l++) {
            int line = l;
            C.answers("movesTo(" + l + ")", due[l], () -> x.movesTo(line));
        }
        C.fails("movesTo(6)", Check.INDEX, () -> x.movesTo(6));
        C.fails("movesTo(-1)", Check.INDEX, () -> x.movesTo(-1));
        C.fails("movesTo(MAX)", Check.INDEX, () -> x.movesTo(Integer.MAX_VALUE));
        C.fails("movesTo(MIN)", Check.INDEX, () -> x.movesTo(Integer.MIN_VALUE));
        C.fails("movesTo(0) without a store", Check.INDEX, () -> new GapLines().movesTo(0));
        // It tells how many moves there have to be, not whether a dead store makes them.
        C.answers("movesTo(0) of a dead store", 3, () -> Check.exampleDead().movesTo(0));
        GapLines y = Check.example();
        y.movesTo(1);
        C.same("the store", Check.EXAMPLE, Check.seen(y));
        C.answers("undo(): movesTo is no action", 7, y::undo);
        C.end();
    }
}
