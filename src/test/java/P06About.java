public final class P06About {
    public static void main(String[] args) {
        Check c = new Check();
        GapLines none = new GapLines();
        for (int what = 0; what <= 11; what++) {
            int number = what;
            c.answers("about(" + what + ") without a store", 0, () -> none.about(number));
        }
        for (GapLines x : new GapLines[] {none, Check.example(), Check.exampleDead()}) {
            c.fails("about(-1)", Check.ARGUMENT, () -> x.about(-1));
            c.fails("about(12)", Check.ARGUMENT, () -> x.about(12));
            c.fails("about(MAX)", Check.ARGUMENT, () -> x.about(Integer.MAX_VALUE));
            c.fails("about(MIN)", Check.ARGUMENT, () -> x.about(Integer.MIN_VALUE));
        }
        due(c, "the example", Check.example(), 4, 0, 1, 0, 7, 3, 3, 0, 1, 0, 1, 11);
        due(c, "behind a round", Check.exampleBehindRound(), 4, 1, 4, 0, 10, 5, 3, 1, 0, 0, 1, 16);
        due(c, "the dead one", Check.exampleDead(), 4, 1, 4, 0, 12, 5, 5, 1, 2, 1, 1, 18);
        due(c, "a new one", Check.store(32, 31, 4), 32, 0, 32, 4, 0, 0, 0, 0, 0, 0, 0, 0);
        // The last place is looked at, too: the gap has been there, and all lines but it are worn.
        GapLines last = Check.store(4, 1, 0, 100, 50);
        last.all(1);
        due(c, "all but the gap", last, 4, 0, 4, 0, 4, 0, 1, 0, 4, 0, 0, 4);
        GapLines gap = Check.store(4, 1, 0, 100, 1);
        gap.write(0, 1);
        gap.set(1, 50);
        gap.write(3, 1);
        due(c, "worn at the last place", gap, 4, 0, 3, 0, 2, 1, 2, 0, 1, 0, 0, 3);
        // A store that has been there leaves nothing.
        GapLines gone = Check.exampleDead();
        Check.type(gone, "L04020");
        gone.load();
        due(c, "no store behind one", gone, 0, 0, 0, 0, 0, 0, 0, 0, 0, 0, 0, 0);
        eachPlaceCounts(c);
        c.end();
    }

    /** Each place is once the only one with the greatest wear, and once the only one with the least. */
    private static void eachPlaceCounts(Check c) {
        boolean[] mostAt = new boolean[5];
        boolean[] leastAt = new boolean[5];
        GapLines x = Check.store(4, 3, 4, 999, 3);
        for (int i = 0; i < 500; i++) {
            int most = 0;
            int least = 0;
            for (int p = 1; p < 5; p++) {
                most = x.wear(p) > x.wear(most) ? p : most;
                least = x.wear(p) < x.wear(least) ? p : least;
            }
            int due6 = x.wear(most);
            int due7 = x.wear(least);
            c.answers("about(6)", due6, () -> x.about(6));
            c.answers("about(7)", due7, () -> x.about(7));
            int mosts = 0;
            int leasts = 0;
            for (int p = 0; p < 5; p++) {
                mosts += x.wear(p) == due6 ? 1 : 0;
                leasts += x.wear(p) == due7 ? 1 : 0;
            }
            mostAt[most] |= mosts == 1;
            leastAt[least] |= leasts == 1;
            int l = i / 25 % 5;
            if (i % 10 < 8) {
                x.write(l == 4 ? 0 : l, 1);
            } else {
                x.all(1);
            }
        }
        for (int p = 0; p < 5; p++) {
            if (!mostAt[p] || !leastAt[p]) {
                c.tell("the place " + p + " was never the only one with the greatest wear or with the least");
            }
        }
    }

    private static void due(Check c, String which, GapLines x, int... numbers) {
        for (int what = 0; what < numbers.length; what++) {
            int number = what;
            c.answers("about(" + what + ") of " + which, numbers[what], () -> x.about(number));
        }
    }
}
