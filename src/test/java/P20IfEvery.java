public final class P20IfEvery {
    private static final Check C = new Check();

    private static GapLines made() {
        GapLines x = Check.store(5, 2, 2, 30, 8);
        x.all(2);
        x.hammer(3, 5);
        return x;
    }

    private static void asDone() {
        GapLines x = made();
        String before = Check.seen(x);
        for (int every = 1; every <= 50; every++) {
            for (int m : new int[] {1, 2, 20, 77, 500}) {
                GapLines y = made();
                y.set(1, every);
                y.hammer(1, m);
                int due = y.about(6);
                int it = every;
                GapLines z = m == 77 ? made() : x;
                C.answers("ifEvery(1, " + every + ", " + m + ")", due, () -> z.ifEvery(1, it, m));
            }
            if (every % 20 == 0) {
                C.same("the store behind ifEvery()", before, Check.seen(x));
            }
        }
    }

    private static void edges() {
        GapLines x = Check.store(4, 1, 0, 100, 8);
        C.answers("ifEvery(0, 50, 10)", 10, () -> x.ifEvery(0, 50, 10));
        C.answers("ifEvery(0, 1, 4)", 4, () -> x.ifEvery(0, 1, 4));
        C.answers("ifEvery(0, 1, 5)", 5, () -> x.ifEvery(0, 1, 5));
        C.answers("ifEvery(0, 2, 11)", 9, () -> x.ifEvery(0, 2, 11));
        C.answers("ifEvery(0, 50, 500), dead on the way", 100, () -> x.ifEvery(0, 50, 500));
        C.answers("setting(1) stays", 8, () -> x.setting(1));
        C.answers("undo(): ifEvery is no action", 2, x::undo);
        C.answers("ifEvery(0, 1, 500) of a dead store", 5, () -> Check.exampleDead().ifEvery(0, 1, 500));
    }

    private static void wrongArguments() {
        GapLines x = Check.example();
        int[][] lines = {{4, 1, 1}, {-1, 1, 1}, {4, 0, 1}, {4, 1, 0}, {Integer.MAX_VALUE, 51, 501},
            {Integer.MIN_VALUE, 1, 1}};
        for (int[] w : lines) {
            C.fails("ifEvery(" + w[0] + ", " + w[1] + ", " + w[2] + ")", Check.INDEX,
                    () -> x.ifEvery(w[0], w[1], w[2]));
        }
        int[][] others = {{0, 0, 1}, {0, 51, 1}, {0, -1, 1}, {0, Integer.MAX_VALUE, 1}, {0, Integer.MIN_VALUE, 1},
            {0, 1, 0}, {0, 1, 501}, {0, 1, -1}, {0, 1, Integer.MAX_VALUE}, {0, 50, Integer.MIN_VALUE}};
        for (int[] w : others) {
            C.fails("ifEvery(" + w[0] + ", " + w[1] + ", " + w[2] + ")", Check.ARGUMENT,
                    () -> x.ifEvery(w[0], w[1], w[2]));
        }
        C.fails("ifEvery(0, 1, 1) without a store", Check.INDEX, () -> new GapLines().ifEvery(0, 1, 1));
        C.same("the store", Check.EXAMPLE, Check.seen(x));
    }

    public static void main(String[] args) {
        asDone();
        edges();
        wrongArguments();
        C.end();
    }
}
