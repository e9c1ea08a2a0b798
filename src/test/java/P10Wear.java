public final class P10Wear {
    public static void main(String[] args) {
        Check c = new Check();
        c.fails("wear(0) without a store", Check.INDEX, () -> new GapLines().wear(0));
        due(c, "the example", Check.example(), 1, 0, 1, 1, 3);
        due(c, "behind a round", Check.exampleBehindRound(), 3, 3, 1, 1, 3);
        due(c, "the dead one", Check.exampleDead(), 5, 3, 1, 1, 3);
        due(c, "a new one", Check.store(5, 1, 0), 0, 0, 0, 0, 0, 0);
        // A medium is replaced as often as there is a spare one, and stays in its place.
        GapLines x = Check.store(4, 1, 2, 5, 50);
        x.hammer(2, 4);
        due(c, "4 writes", x, 0, 0, 4, 0, 0);
        x.hammer(2, 1);
        due(c, "5 writes", x, 0, 0, 1, 0, 0);
        x.hammer(2, 3);
        due(c, "8 writes", x, 0, 0, 4, 0, 0);
        x.hammer(2, 1);
        due(c, "9 writes", x, 0, 0, 1, 0, 0);
        c.answers("about(3)", 0, () -> x.about(3));
        c.answers("about(11)", 11, () -> x.about(11));
        c.answers("hammer(2, 500)", 4, () -> x.hammer(2, 500));
        due(c, "13 writes", x, 0, 0, 5, 0, 0);
        c.answers("about(9)", 1, () -> x.about(9));
        c.fails("wear(5)", Check.INDEX, () -> x.wear(5));
        c.fails("wear(-1)", Check.INDEX, () -> x.wear(-1));
        c.fails("wear(MAX)", Check.INDEX, () -> x.wear(Integer.MAX_VALUE));
        c.fails("wear(MIN)", Check.INDEX, () -> x.wear(Integer.MIN_VALUE));
        changedEndurance(c);
        replacedByMove(c);
        c.end();
    }

    /** A medium whose wear is more than the setting by a change of it is replaced when it is written next. */
    private static void changedEndurance(Check c) {
        GapLines x = Check.store(4, 1, 1, 100, 50);
        x.hammer(1, 20);
        x.set(0, 10);
        due(c, "a smaller setting", x, 0, 20, 0, 0, 0);
        x.write(0, 1);
        due(c, "another line written", x, 1, 20, 0, 0, 0);
        x.write(1, 1);
        due(c, "the line written", x, 1, 1, 0, 0, 0);
        x.hammer(1, 8);
        c.answers("about(9)", 0, () -> x.about(9));
        x.hammer(1, 1);
        c.answers("about(9)", 1, () -> x.about(9));
    }

    /** The gap's place is worn by a move, and its medium replaced, too. */
    private static void replacedByMove(Check c) {
        GapLines x = Check.store(4, 1, 1, 5, 1);
        x.hammer(0, 5);
        due(c, "a move on a worn medium", x, 1, 2, 1, 1, 1);
        c.answers("about(2)", 4, () -> x.about(2));
        c.answers("about(9)", 0, () -> x.about(9));
        c.answers("about(10)", 1, () -> x.about(10));
        c.answers("about(11)", 11, () -> x.about(11));
    }

    private static void due(Check c, String which, GapLines x, int... wears) {
        for (int p = 0; p < wears.length; p++) {
            int place = p;
            c.answers("wear(" + p + ") of " + which, wears[p], () -> x.wear(place));
        }
    }
}
