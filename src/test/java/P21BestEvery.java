public final class P21BestEvery {
    private static final Check C = new Check();

    private static void asTried(GapLines x, int l, int m) {
        int best = 0;
        int least = Integer.MAX_VALUE;
        for (int every = 1; every <= 50; every++) {
            int wear = x.ifEvery(l, every, m);
            if (wear <= least) {
                least = wear;
                best = every;
            }
        }
        int due = best;
        C.answers("bestEvery(" + l + ", " + m + ")", due, () -> x.bestEvery(l, m));
    }

    public static void main(String[] args) {
        for (int m : new int[] {1, 2, 3, 10, 49, 50, 51, 60, 100, 200, 333, 500}) {
            GapLines x = Check.store(6, 5, 2, 40, 8);
            x.all(3);
            asTried(x, 2, m);
            GapLines y = Check.store(9, 4, 0, 999, 5);
            y.hammer(4, 7);
            asTried(y, 3, m);
            GapLines z = Check.store(4, 3, 4, 10, 50);
            asTried(z, 0, m);
        }
        C.answers("bestEvery(0, 1): all are the same", 50, () -> Check.store(4, 1, 0, 100, 8).bestEvery(0, 1));
        C.answers("bestEvery(0, 500), dead: all are the same", 50, () -> Check.exampleDead().bestEvery(0, 500));
        // The gap is to take the line away from its worn place before the second write, so 50 is too much.
        GapLines worn = Check.store(4, 1, 0, 100, 50);
        worn.hammer(3, 48);
        C.answers("bestEvery(3, 2): 50 is not the best", 49, () -> worn.bestEvery(3, 2));
        GapLines low = Check.store(4, 1, 0, 100, 50);
        low.hammer(3, 1);
        asTried(low, 3, 13);
        C.answers("bestEvery(3, 13): the least value is the best", 1, () -> low.bestEvery(3, 13));
        GapLines x = Check.example();
        x.bestEvery(0, 500);
        for (int m : new int[] {0, -1, 501, Integer.MAX_VALUE, Integer.MIN_VALUE}) {
            C.fails("bestEvery(0, " + m + ")", Check.ARGUMENT, () -> x.bestEvery(0, m));
            C.fails("bestEvery(4, " + m + ")", Check.INDEX, () -> x.bestEvery(4, m));
        }
        C.fails("bestEvery(4, 1)", Check.INDEX, () -> x.bestEvery(4, 1));
        C.fails("bestEvery(-1, 1)", Check.INDEX, () -> x.bestEvery(-1, 1));
        C.fails("bestEvery(0, 1) without a store", Check.INDEX, () -> new GapLines().bestEvery(0, 1));
        C.same("the store", Check.EXAMPLE, Check.seen(x));
        C.answers("undo(): bestEvery is no action", 7, x::undo);
        C.end();
    }
}
