public final class P06About {
    public static void main(String[] args) {
        Check c = new Check();
        GapLines none = new GapLines();
        for (int what = 0; what <= 11; what++) {
            int number = what;
            c.answers("about(" + what + ") without a store", 0, () -> none.about(number));
        }
        for (GapLines x : new GapLines[] {none, Check.example(), Check.exampleDead()}) {
            c.fails("about(-1)", Check.ARGUMENT, () -> x.about(-1));
            c.fails("about(12)", Check.ARGUMENT, () -> x.about(12));
            c.fails("about(MAX)", Check.ARGUMENT, () -> x.about(Integer.MAX_VALUE));
            c.fails("about(MIN)", Check.ARGUMENT, () -> x.about(Integer.MIN_VALUE));
        }
        due(c, "the example", Check.example(), 4, 0, 1, 0, 7, 3, 3, 0, 1, 0, 1, 11);
        due(c, "behind a round", Check.exampleBehindRound(), 4, 1, 4, 0, 10, 5, 3, 1, 0, 0, 1, 16);
        due(c, "the dead one", Check.exampleDead(), 4, 1, 4, 0, 12, 5, 5, 1, 2, 1, 1, 18);
        due(c, "a new one", Check.store(32, 31, 4), 32, 0, 32, 4, 0, 0, 0, 0, 0, 0, 0, 0);
        // The last place is looked at, too: the gap has been there, and all lines but it are worn.
        GapLines last = Check.store(4, 1, 0, 100, 50);
        last.all(1);
        due(c, "all but the gap", last, 4, 0, 4, 0, 4, 0, 1, 0, 4, 0, 0, 4);
        GapLines gap = Check.store(4, 1, 0, 100, 1);
        gap.write(0, 1);
        gap.set(1, 50);
        gap.write(3, 1);
        due(c, "worn at the last place", gap, 4, 0, 3, 0, 2, 1, 2, 0, 1, 0, 0, 3);
        // A store that has been there leaves nothing.
        GapLines gone = Check.exampleDead();
        Check.type(gone, "L04020");
        gone.load();
        due(c, "no store behind one", gone, 0, 0, 0, 0, 0, 0, 0, 0, 0, 0, 0, 0);
        c.end();
    }

    private static void due(Check c, String which, GapLines x, int... numbers) {
        for (int what = 0; what < numbers.length; what++) {
            int number = what;
            c.answers("about(" + what + ") of " + which, numbers[what], () -> x.about(number));
        }
    }
}
