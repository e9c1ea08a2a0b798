public final class P15All {
    private static final Check C = new Check();

    private static GapLines filled() {
        GapLines x = Check.store(7, 5, 2, 12, 3);
        for (int l = 0; l < 7; l++) {
            x.write(l, 100 + l);
        }
        return x;
    }

    private static void asWrites() {
        for (int m = 1; m <= 20; m++) {
            GapLines x = filled();
            GapLines y = filled();
            int rounds = m;
            int due = 0;
            while (due < m * 7 && y.about(9) == 0) {
                y.write(due % 7, 100 + due % 7);
                due++;
            }
            C.answers("all(" + m + ")", due, () -> x.all(rounds));
            C.same("the store behind all(" + m + ")", Check.seen(y), Check.seen(x));
        }
    }

    private static void edges() {
        GapLines x = Check.store(32, 5, 4, 999, 50);
        C.answers("all(50)", 1600, () -> x.all(50));
        C.answers("about(4)", 1600, () -> x.about(4));
        C.answers("all(1)", 32, () -> x.all(1));
        for (int m : new int[] {0, -1, 51, Integer.MAX_VALUE, Integer.MIN_VALUE}) {
            C.fails("all(" + m + ")", Check.ARGUMENT, () -> x.all(m));
            C.fails("all(" + m + ") without a store", Check.ARGUMENT, () -> new GapLines().all(m));
        }
        C.answers("about(4): nothing was written", 1632, () -> x.about(4));
        C.answers("undo(): it is one action", 4, x::undo);
        C.answers("about(4)", 1600, () -> x.about(4));
        C.fails("all(1) without a store", Check.STATE, () -> new GapLines().all(1));
        C.fails("all(50) without a store", Check.STATE, () -> new GapLines().all(50));
    }

    private static void dead() {
        GapLines x = Check.exampleDead();
        C.answers("all(50), dead", 0, () -> x.all(50));
        C.same("the dead store", Check.DEAD, Check.seen(x));
        C.answers("undo(): it was an action", 11, x::undo);
        C.fails("all(51), dead", Check.ARGUMENT, () -> x.all(51));
    }

    public static void main(String[] args) {
        asWrites();
        edges();
        dead();
        C.end();
    }
}
