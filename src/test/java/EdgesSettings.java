/** "Terms", SETTINGS. */
public final class EdgesSettings {
    /** The line 1 has worn its place 20 times, and setting 0 is changed then. */
    private static GapLines changed(int spares, int endurance) {
        GapLines x = Check.store(4, 1, spares, 100, 50);
        x.hammer(1, 20);
        x.set(0, endurance);
        return x;
    }

    private static long wearByOneWrite(GapLines x) {
        x.write(1, 1);
        return x.wear(1);
    }

    private static void values(Sentences t) {
        t.of("0: how often a medium can be written, 5 to 999, at first 100");
        t.answers("it is 100 at first", 100, GapLines::new, x -> x.setting(0));
        t.answers("a medium is written 99 times, at first, and the store lives", 0, () -> atFirst(99), x -> x.about(9));
        t.answers("a medium is written 100 times, at first, and the store is dead", 1, () -> atFirst(100),
                x -> x.about(9));
        t.refuses("4 is too small", Check.ARGUMENT, x -> x.set(0, 4));
        t.answers("5 is the least that is allowed", 5, () -> changed(0, 5), x -> x.setting(0));
        t.answers("999 is the greatest that is allowed", 999, () -> changed(0, 999), x -> x.setting(0));
        t.refuses("1000 is too large", Check.ARGUMENT, x -> x.set(0, 1000));
        t.answers("with 5, a medium is written 5 times", 5, () -> Check.store(4, 1, 0, 5, 50), x -> x.hammer(0, 99));
        t.answers("with 999, a medium is written 999 times", 999, () -> Check.store(32, 1, 0, 999, 50),
                x -> x.life(0));

        t.of("1: the writes for a move of the gap, 1 to 50, at first 8");
        t.answers("it is 8 at first", 8, GapLines::new, x -> x.setting(1));
        t.answers("7 writes at first", 0, () -> Check.store(4, 1, 0), x -> movesBy(x, 7));
        t.answers("8 writes at first", 1, () -> Check.store(4, 1, 0), x -> movesBy(x, 8));
        t.refuses("0 is too small", Check.ARGUMENT, x -> x.set(1, 0));
        t.answers("1 is the least that is allowed", 1, () -> Check.store(4, 1, 0, 5, 1), x -> x.setting(1));
        t.answers("50 is the greatest that is allowed", 50, () -> Check.store(4, 1, 0, 5, 50), x -> x.setting(1));
        t.refuses("51 is too large", Check.ARGUMENT, x -> x.set(1, 51));
        t.answers("with 1, a move by each write", 9, () -> Check.store(4, 1, 0, 99, 1), x -> movesBy(x, 9));
        t.answers("with 50, no move by 49 writes", 0, () -> Check.store(4, 1, 0, 99, 50), x -> movesBy(x, 49));
        t.answers("with 50, a move by 50 writes", 1, () -> Check.store(4, 1, 0, 99, 50), x -> movesBy(x, 50));
    }

    private static GapLines atFirst(int writes) {
        GapLines x = new GapLines();
        x.make(32, 1, 0);
        x.hammer(0, writes);
        return x;
    }

    private static long movesBy(GapLines x, int writes) {
        x.hammer(0, writes);
        return x.about(5);
    }

    private static void changes(Sentences t) {
        t.of("A medium whose wear is more than setting 0 by a change of it is replaced when it is written next.");
        t.answers("it is not replaced by the change", 20, () -> changed(1, 19), x -> x.wear(1));
        t.answers("the store is not dead by the change", 0, () -> changed(0, 5), x -> x.about(9));
        t.answers("it is not replaced if another line is written", 20, () -> changed(1, 19), x -> {
            x.write(0, 1);
            return x.wear(1);
        });
        t.answers("its wear is 1 more than setting 0", 1, () -> changed(1, 19), EdgesSettings::wearByOneWrite);
        t.answers("its wear is much more than setting 0, the least value", 1, () -> changed(1, 5),
                EdgesSettings::wearByOneWrite);
        t.answers("its wear is setting 0", 1, () -> changed(1, 20), EdgesSettings::wearByOneWrite);
        t.answers("its wear is 1 less than setting 0", 1, () -> changed(1, 21), EdgesSettings::wearByOneWrite);
        t.answers("its wear is 2 less than setting 0", 21, () -> changed(1, 22), EdgesSettings::wearByOneWrite);
        t.test("there is no spare medium: the store is dead when it is written next", c -> {
            GapLines x = changed(0, 19);
            x.write(1, 6);
            c.answers("about(9)", 1, () -> x.about(9));
            c.answers("wear(1)", 21, () -> x.wear(1));
            c.answers("read(1)", 6, () -> x.read(1));
        });
        t.test("it is replaced when a move of the gap lays something there", c -> {
            GapLines x = Check.store(4, 1, 1, 100, 50);
            x.hammer(3, 20);
            x.set(1, 1);
            x.write(0, 1);
            c.answers("the gap is the worn place", 3, () -> x.about(2));
            x.set(0, 10);
            c.answers("its wear", 20, () -> x.wear(3));
            x.write(0, 1);
            c.answers("its wear behind the move", 1, () -> x.wear(3));
            c.answers("about(10)", 1, () -> x.about(10));
        });
    }

    public static void main(String[] args) {
        Sentences t = new Sentences("SETTINGS");
        values(t);
        changes(t);
        t.end();
    }
}
