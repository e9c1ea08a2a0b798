/** "Terms", WRITING. */
public final class EdgesWriting {
    private static GapLines every(int every) {
        return Check.store(4, 1, 0, 999, every);
    }

    /** The gap has moved once, by the third write. */
    private static GapLines movedOnce() {
        GapLines x = every(3);
        x.hammer(0, 3);
        return x;
    }

    private static void whenItMoves(Sentences t) {
        t.of("To write a line lays the value at the place where the line lies.");
        t.answers("the value 0 where another one is", 0, Stores::calm, x -> {
            x.write(3, 999);
            x.write(3, 0);
            return x.read(3);
        });
        t.answers("the line n - 1, at the place n - 1", 1, Stores::calm, x -> {
            x.write(3, 999);
            return x.wear(3);
        });
        t.answers("the line n - 1, at the place n", 5, () -> Stores.moved(4, 1, 4), x -> {
            x.set(1, 50);
            x.hammer(3, 4);
            return x.wear(4);
        });

        t.of("Behind it, if the store is not dead, ... the gap moves");
        t.test("the write by which the store is dead does not move the gap, though it is the last of as many", c -> {
            GapLines x = Check.store(4, 1, 0, 5, 5);
            x.hammer(0, 5);
            c.same("the store", "about 4 0 4 0 5 0 5 0 5 1 0 5 settings 5 5"
                    + " lines 0@0 0@1 0@2 0@3 places 0/5 1/0 2/0 3/0 -1/0", Check.seen(x));
        });
        t.test("the write that takes the last spare medium moves it", c -> {
            GapLines x = Check.store(4, 1, 1, 5, 5);
            x.hammer(0, 5);
            c.same("the store", "about 4 0 3 0 5 1 1 0 0 0 1 7 settings 5 5"
                    + " lines 0@0 0@1 0@2 0@4 places 0/1 1/0 2/0 -1/0 3/1", Check.seen(x));
        });

        t.of("as many writes as setting 1 tells, or more, have been done since the gap moved last"
                + " (or since the beginning)");
        t.answers("one write less than 3", 0, () -> every(3), x -> movesBy(x, 2));
        t.answers("3 writes", 1, () -> every(3), x -> movesBy(x, 3));
        t.answers("one write less than 1: none", 0, () -> every(1), x -> x.about(5));
        t.answers("setting 1 is 1, its least value", 1, () -> every(1), x -> movesBy(x, 1));
        t.answers("one write less than 50", 0, () -> every(50), x -> movesBy(x, 49));
        t.answers("setting 1 is 50, its greatest value", 1, () -> every(50), x -> movesBy(x, 50));
        t.answers("behind a move, one write less than 3", 1, EdgesWriting::movedOnce, x -> movesBy(x, 2));
        t.answers("behind a move, 3 writes", 2, EdgesWriting::movedOnce, x -> movesBy(x, 3));
        t.answers("no write since the gap moved last", 0, EdgesWriting::movedOnce, x -> x.about(8));
        t.answers("more than as many, by a change of setting 1: no move by the change", 0, () -> {
            GapLines x = every(50);
            x.hammer(0, 49);
            x.set(1, 3);
            return x;
        }, x -> x.about(5));
        t.answers("more than as many, by a change of setting 1: one move by the next write", 1, () -> {
            GapLines x = every(50);
            x.hammer(0, 49);
            x.set(1, 3);
            return x;
        }, x -> movesBy(x, 1));
        t.answers("more than as many: the writes before it do not count for the second move", 1, () -> {
            GapLines x = every(50);
            x.hammer(0, 49);
            x.set(1, 3);
            return x;
        }, x -> movesBy(x, 3));
        t.answers("the writes of a store that was there before do not count", 0, () -> {
            GapLines x = every(3);
            x.hammer(0, 2);
            x.make(4, 1, 0);
            return x;
        }, x -> movesBy(x, 2));
        t.answers("writes of several lines count together", 1, () -> every(4), x -> {
            x.all(1);
            return x.about(5);
        });
    }

    private static long movesBy(GapLines x, int writes) {
        x.hammer(0, writes);
        return x.about(5);
    }

    private static void howItMoves(Sentences t) {
        t.of("If the gap is not the place 0, what is at the place ahead of it is laid in the gap,"
                + " and that place is the gap then.");
        t.test("from the place n to the place n - 1", c -> {
            GapLines x = Stores.moved(4, 1, 1);
            c.same("the store", "about 4 0 3 4 1 1 1 0 0 0 0 2 settings 999 1"
                    + " lines 0@0 0@1 0@2 0@4 places 0/1 1/0 2/0 -1/0 3/1", Check.seen(x));
        });
        t.test("from the place 1 to the place 0", c -> {
            GapLines x = Stores.moved(4, 1, 3);
            c.answers("about(2) before", 1, () -> x.about(2));
            x.write(3, 8);
            c.same("the store", "about 4 0 0 4 4 4 3 1 0 0 0 8 settings 999 1"
                    + " lines 0@1 0@2 0@3 8@4 places -1/3 0/1 1/1 2/1 3/2", Check.seen(x));
        });
        t.test("the values go with their lines", c -> {
            GapLines x = every(1);
            for (int l = 0; l < 4; l++) {
                x.write(l, 10 + l);
            }
            c.answers("about(2)", 0, () -> x.about(2));
            for (int l = 0; l < 4; l++) {
                int line = l;
                c.answers("read(" + l + ")", 10 + l, () -> x.read(line));
            }
        });

        t.of("If it is the place 0, what is at the place n is laid at the place 0, the place n is the gap then,"
                + " and the start becomes 1 greater, 0 if that is n.");
        t.test("the start was 0", c -> {
            GapLines x = Stores.moved(4, 1, 4);
            c.answers("about(2) before", 0, () -> x.about(2));
            c.answers("line(4) before", 3, () -> x.line(4));
            x.write(1, 8);
            c.same("the store", "about 4 1 4 4 5 5 5 1 0 0 0 10 settings 999 1"
                    + " lines 0@1 8@2 0@3 0@0 places 3/5 0/1 1/2 2/1 -1/1", Check.seen(x));
        });
        t.answers("the start was n - 2: it is n - 1", 3, () -> Stores.moved(4, 1, 14), x -> {
            x.write(1, 8);
            return x.about(1);
        });
        t.answers("the start was n - 1: it is 0", 0, () -> Stores.moved(4, 1, 19), x -> {
            x.write(1, 8);
            return x.about(1);
        });
        t.answers("the start was n - 1: the gap is the place n", 4, () -> Stores.moved(4, 1, 19), x -> {
            x.write(1, 8);
            return x.about(2);
        });
        t.test("the start was n - 1: all lines lie where they were at first", c -> {
            GapLines x = Stores.moved(9, 4, 9 * 10 - 1);
            c.answers("about(1) before", 8, () -> x.about(1));
            x.write(1, 8);
            for (int l = 0; l < 9; l++) {
                int line = l;
                c.answers("place(" + l + ")", 4 * l % 9, () -> x.place(line));
            }
        });
    }

    public static void main(String[] args) {
        Sentences t = new Sentences("WRITING");
        whenItMoves(t);
        howItMoves(t);
        t.end();
    }
}
