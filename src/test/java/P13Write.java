public final class P13Write {
    private static final Check C = new Check();

    private static void answersAndChanges() {
        GapLines x = Check.store(4, 1, 1, 5, 2);
        C.answers("write(0, 7)", 0, () -> x.write(0, 7));
        C.answers("write(0, 8)", 7, () -> x.write(0, 8));
        C.answers("write(3, 9)", 0, () -> x.write(3, 9));
        C.answers("write(3, 0)", 9, () -> x.write(3, 0));
        C.answers("write(3, 999)", 0, () -> x.write(3, 999));
        C.answers("write(3, 1)", 999, () -> x.write(3, 1));
        C.same("the example", Check.EXAMPLE, Check.seen(Check.example()));
        C.same("the example behind a round", Check.BEHIND_ROUND, Check.seen(Check.exampleBehindRound()));
        C.same("the example dead", Check.DEAD, Check.seen(Check.exampleDead()));
    }

    private static void deadByMove() {
        GapLines x = Check.store(4, 1, 0, 5, 1);
        for (int v = 1; v <= 5; v++) {
            int value = v;
            C.answers("write(0, " + v + ")", v - 1, () -> x.write(0, value));
        }
        // The fifth write moves the gap from the place 0, whose medium is worn out by it: the move is made.
        C.same("a store dead by a move", "about 4 1 4 0 5 5 5 1 0 1 0 10 settings 5 1"
                + " lines 5@1 0@2 0@3 0@0 places 3/5 0/2 1/1 2/1 -1/1", Check.seen(x));
        C.fails("write(0, 6)", Check.STATE, () -> x.write(0, 6));
    }

    private static void movesByFewerWrites() {
        GapLines x = Check.store(4, 1, 0, 100, 50);
        x.hammer(0, 20);
        x.set(1, 3);
        C.answers("about(2) before", 4, () -> x.about(2));
        x.write(0, 1);
        C.answers("about(2): one move, however many writes there were", 3, () -> x.about(2));
        C.answers("about(5)", 1, () -> x.about(5));
        C.answers("about(8)", 0, () -> x.about(8));
        x.write(0, 1);
        x.write(0, 1);
        C.answers("about(5) 2 writes later", 1, () -> x.about(5));
        x.write(0, 1);
        C.answers("about(5) 3 writes later", 2, () -> x.about(5));
    }

    private static void wrongArguments() {
        GapLines none = new GapLines();
        C.fails("write(0, 0) without a store", Check.INDEX, () -> none.write(0, 0));
        C.fails("write(0, -1) without a store", Check.INDEX, () -> none.write(0, -1));
        GapLines x = Check.example();
        int[][] wrong = {{-1, 0}, {4, 0}, {Integer.MAX_VALUE, 0}, {Integer.MIN_VALUE, 0}, {4, 1000}, {-1, -1}};
        for (int[] w : wrong) {
            C.fails("write(" + w[0] + ", " + w[1] + ")", Check.INDEX, () -> x.write(w[0], w[1]));
        }
        for (int v : new int[] {-1, 1000, Integer.MAX_VALUE, Integer.MIN_VALUE}) {
            C.fails("write(0, " + v + ")", Check.ARGUMENT, () -> x.write(0, v));
        }
        C.same("the store", Check.EXAMPLE, Check.seen(x));
        C.answers("undo(): no wrong call was an action", 7, x::undo);
        GapLines dead = Check.exampleDead();
        C.fails("write(4, 0), dead", Check.INDEX, () -> dead.write(4, 0));
        C.fails("write(0, 1000), dead", Check.ARGUMENT, () -> dead.write(0, 1000));
        C.fails("write(0, 0), dead", Check.STATE, () -> dead.write(0, 0));
        C.same("the dead store", Check.DEAD, Check.seen(dead));
        C.answers("undo(), dead: no wrong call was an action", 10, dead::undo);
        C.answers("write(3, 5): it lives again", 10, () -> dead.write(3, 5));
    }

    public static void main(String[] args) {
        answersAndChanges();
        deadByMove();
        movesByFewerWrites();
        wrongArguments();
        C.end();
    }
}
