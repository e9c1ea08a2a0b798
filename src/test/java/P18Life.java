public final class P18Life {
    private static final Check C = new Check();

    private static GapLines made(int every, int spares) {
        GapLines x = Check.store(6, 5, spares, 9, every);
        x.all(1);
        x.hammer(4, 3);
        return x;
    }

    private static void asHammered() {
        for (int every = 1; every <= 12; every++) {
            for (int l = 0; l < 6; l++) {
                int line = l;
                GapLines x = made(every, l % 5);
                GapLines y = made(every, l % 5);
                int due = 0;
                while (y.about(9) == 0) {
                    y.hammer(l, 1);
                    due++;
                }
                String before = Check.seen(x);
                C.answers("life(" + l + ") with " + every, due, () -> x.life(line));
                C.same("the store behind life()", before, Check.seen(x));
            }
        }
    }

    private static void edges() {
        C.answers("life(0), dead by a move", 5, () -> Check.store(4, 1, 0, 5, 1).life(0));
        C.answers("life(0) of a dead store", 0, () -> Check.exampleDead().life(0));
        C.answers("life(0) without an end", 2000, () -> Check.store(32, 1, 4, 999, 50).life(0));
        // Without a move of the gap in 50 writes, one line lasts for the endurance and that less 1 by each spare.
        C.answers("life(3) of one medium", 20, () -> Check.store(4, 1, 0, 20, 50).life(3));
        C.answers("life(3) of two", 39, () -> Check.store(4, 1, 1, 20, 50).life(3));
        GapLines x = Check.example();
        C.fails("life(4)", Check.INDEX, () -> x.life(4));
        C.fails("life(-1)", Check.INDEX, () -> x.life(-1));
        C.fails("life(MAX)", Check.INDEX, () -> x.life(Integer.MAX_VALUE));
        C.fails("life(MIN)", Check.INDEX, () -> x.life(Integer.MIN_VALUE));
        C.fails("life(4) of a dead store", Check.INDEX, () -> Check.exampleDead().life(4));
        C.fails("life(0) without a store", Check.INDEX, () -> new GapLines().life(0));
        C.answers("undo(): life is no action", 7, x::undo);
    }

    /** The bound is looked for from both sides: lives just below, at and above 2000. */
    private static void nearTheBound() {
        boolean below = false;
        for (int endurance = 5; endurance <= 999; endurance++) {
            GapLines x = Check.store(5, 2, 1, endurance, 3);
            GapLines y = Check.store(5, 2, 1, endurance, 3);
            int done = 0;
            for (int i = 0; i < 4; i++) {
                done += y.hammer(1, 500);
            }
            int due = done;
            below |= due > 1990 && due < 2000;
            C.answers("life(1) with the endurance " + endurance, due, () -> x.life(1));
        }
        if (!below) {
            C.tell("no life just below 2000 was tried");
        }
    }

    public static void main(String[] args) {
        asHammered();
        edges();
        nearTheBound();
        C.end();
    }
}
