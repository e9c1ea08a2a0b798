public final class P14Hammer {
    private static final Check C = new Check();

    private static void asWrites() {
        for (int m = 1; m <= 60; m++) {
            GapLines x = Check.store(7, 5, 2, 12, 3);
            x.write(2, 77);
            GapLines y = Check.store(7, 5, 2, 12, 3);
            y.write(2, 77);
            int times = m;
            int due = 0;
            while (due < m && y.about(9) == 0) {
                y.write(2, 77);
                due++;
            }
            C.answers("hammer(2, " + m + ")", due, () -> x.hammer(2, times));
            C.same("the store behind hammer(2, " + m + ")", Check.seen(y), Check.seen(x));
        }
    }

    private static void edges() {
        GapLines x = Check.store(32, 1, 4, 999, 1);
        C.answers("hammer(31, 500)", 500, () -> x.hammer(31, 500));
        C.answers("about(4)", 500, () -> x.about(4));
        C.answers("hammer(0, 1)", 1, () -> x.hammer(0, 1));
        C.fails("hammer(32, 1)", Check.INDEX, () -> x.hammer(32, 1));
        C.fails("hammer(-1, 1)", Check.INDEX, () -> x.hammer(-1, 1));
        C.fails("hammer(32, 0)", Check.INDEX, () -> x.hammer(32, 0));
        C.fails("hammer(MIN, 501)", Check.INDEX, () -> x.hammer(Integer.MIN_VALUE, 501));
        for (int m : new int[] {0, -1, 501, Integer.MAX_VALUE, Integer.MIN_VALUE}) {
            C.fails("hammer(0, " + m + ")", Check.ARGUMENT, () -> x.hammer(0, m));
        }
        C.answers("about(4): nothing was written", 501, () -> x.about(4));
        C.answers("undo(): it is one action", 4, x::undo);
        C.answers("undo()", 3, x::undo);
        C.answers("about(4)", 0, () -> x.about(4));
        C.fails("hammer(0, 1) without a store", Check.INDEX, () -> new GapLines().hammer(0, 1));
        C.fails("hammer(0, 0) without a store", Check.INDEX, () -> new GapLines().hammer(0, 0));
    }

    private static void dead() {
        GapLines x = Check.exampleDead();
        C.answers("hammer(0, 500), dead", 0, () -> x.hammer(0, 500));
        C.same("the dead store", Check.DEAD, Check.seen(x));
        C.answers("undo(): it was an action", 11, x::undo);
        C.same("the dead store", Check.DEAD, Check.seen(x));
        C.fails("hammer(4, 1), dead", Check.INDEX, () -> x.hammer(4, 1));
        C.fails("hammer(0, 501), dead", Check.ARGUMENT, () -> x.hammer(0, 501));
    }

    public static void main(String[] args) {
        asWrites();
        edges();
        dead();
        C.end();
    }
}
