/** Promise 6. */
public final class Edges06About {
    private static GapLines worn(int spares, int line, int writes) {
        GapLines x = Check.store(4, 1, spares, 5, 50);
        for (int i = 0; i < writes; i++) {
            x.write(line, i);
        }
        return x;
    }

    private static void which(Sentences t) {
        t.of("Throws `IllegalArgumentException` if what is not 0 to 11");
        t.refusesBeyondRange("what", 0, 11, GapLines::about);
        t.refuses("-1 without a store", Check.ARGUMENT, GapLines::new, x -> x.about(-1));
        t.refuses("12 without a store", Check.ARGUMENT, GapLines::new, x -> x.about(12));
        t.refuses("-1 of a dead store", Check.ARGUMENT, Stores::dead, x -> x.about(-1));
        t.refuses("12 of a dead store", Check.ARGUMENT, Stores::dead, x -> x.about(12));

        t.of("0: the lines, 0 without a store; ... (1 to 11 are 0 without a store)");
        for (int what = 0; what <= 11; what++) {
            int number = what;
            t.answers(what + " of a new object", 0, GapLines::new, x -> x.about(number));
            t.answers(what + " behind a store that is undone", 0, () -> {
                GapLines x = Check.store(32, 5, 4);
                x.undo();
                return x;
            }, x -> x.about(number));
            t.answers(what + " behind the load of a text whose key is not right", 0, () -> {
                GapLines x = Stores.dead();
                Check.type(x, "L04020");
                x.load();
                return x;
            }, x -> x.about(number));
        }
        t.answers("the least lines", 4, () -> Check.store(4, 3, 0), x -> x.about(0));
        t.answers("the greatest lines", 32, () -> Check.store(32, 5, 0), x -> x.about(0));
    }

    private static void numbers(Sentences t) {
        t.of("1: the start");
        t.answers("at first", 0, () -> Stores.moved(5, 2, 0), x -> x.about(1));
        t.answers("one move before it is greater", 0, () -> Stores.moved(5, 2, 5), x -> x.about(1));
        t.answers("the gap has gone from the place 0", 1, () -> Stores.moved(5, 2, 6), x -> x.about(1));
        t.answers("the greatest", 4, () -> Stores.moved(5, 2, 29), x -> x.about(1));
        t.answers("0 again", 0, () -> Stores.moved(5, 2, 30), x -> x.about(1));

        t.of("2: the gap");
        t.answers("at first the greatest", 5, () -> Stores.moved(5, 2, 0), x -> x.about(2));
        t.answers("the least", 0, () -> Stores.moved(5, 2, 5), x -> x.about(2));
        t.answers("the greatest again", 5, () -> Stores.moved(5, 2, 6), x -> x.about(2));

        t.of("3: the spare media that are left");
        t.answers("none from the beginning", 0, () -> worn(0, 2, 0), x -> x.about(3));
        t.answers("4 from the beginning", 4, () -> worn(4, 2, 0), x -> x.about(3));
        t.answers("one write before the first is taken", 4, () -> worn(4, 2, 4), x -> x.about(3));
        t.answers("the first is taken", 3, () -> worn(4, 2, 5), x -> x.about(3));
        t.answers("the last is taken", 0, () -> worn(4, 2, 17), x -> x.about(3));
        t.answers("none behind the last", 0, () -> worn(4, 2, 21), x -> x.about(3));

        t.of("4: the writes so far");
        t.answers("none", 0, () -> worn(1, 2, 0), x -> x.about(4));
        t.answers("one", 1, () -> worn(1, 2, 1), x -> x.about(4));
        t.answers("the write that is laid twice counts once", 5, () -> worn(1, 2, 5), x -> x.about(4));
        t.answers("the write by which the store is dead counts", 9, () -> worn(1, 2, 9), x -> x.about(4));
        t.answers("a write that throws does not count", 9, () -> worn(1, 2, 9), x -> {
            Check.outcome(() -> x.write(2, 1));
            return x.about(4);
        });

        t.of("5: the moves of the gap so far");
        t.answers("none", 0, () -> Stores.moved(4, 1, 0), x -> x.about(5));
        t.answers("to the place 0", 4, () -> Stores.moved(4, 1, 4), x -> x.about(5));
        t.answers("from the place 0", 5, () -> Stores.moved(4, 1, 5), x -> x.about(5));
        t.answers("it goes on when the start is 0 again", 20, () -> Stores.moved(4, 1, 20), x -> x.about(5));
        t.answers("a new store begins with none", 0, () -> {
            GapLines x = Stores.moved(4, 1, 20);
            x.make(4, 1, 0);
            return x;
        }, x -> x.about(5));
    }

    private static void wears(Sentences t) {
        t.of("6: the greatest wear of a place");
        t.answers("no place is worn", 0, () -> worn(0, 0, 0), x -> x.about(6));
        t.answers("it is that of the place 0", 4, () -> worn(0, 0, 4), x -> x.about(6));
        t.answers("it is that of the place n - 1", 4, () -> worn(0, 3, 4), x -> x.about(6));
        t.answers("it is that of the place n", 4, Edges06About::wornAtTheLast, x -> x.about(6));
        t.answers("it is that of the place 32", 9, Edges06About::wornAt32, x -> x.about(6));
        t.answers("it is that of the medium that is worn out", 5, () -> worn(0, 0, 5), x -> x.about(6));
        t.answers("the medium that was worn out is replaced", 1, () -> worn(1, 0, 5), x -> x.about(6));

        t.of("7: the least one");
        t.answers("no place is worn", 0, () -> worn(0, 0, 0), x -> x.about(7));
        t.answers("it is that of the gap, at the place n", 0, () -> allButTheGap(0), x -> x.about(7));
        t.answers("it is that of the place 0", 1, () -> allButTheFirst(), x -> x.about(7));
        t.answers("all places are worn", 1, () -> {
            GapLines x = allButTheGap(0);
            x.set(1, 1);
            x.write(0, 1);
            return x;
        }, x -> x.about(7));
    }

    /** The line n - 1 lies at the place n, and is written until its wear is 4; the others have 1 at most. */
    private static GapLines wornAtTheLast() {
        GapLines x = Check.store(4, 1, 0, 5, 1);
        x.write(0, 1);
        x.set(1, 50);
        x.hammer(3, 3);
        return x;
    }

    private static GapLines wornAt32() {
        GapLines x = Check.store(32, 1, 0, 99, 1);
        x.write(0, 1);
        x.set(1, 50);
        x.hammer(31, 8);
        return x;
    }

    private static GapLines allButTheGap(int spares) {
        GapLines x = Check.store(4, 1, spares, 99, 50);
        x.all(2);
        return x;
    }

    /** The places 1 to n are worn twice or more, the place 0 once. */
    private static GapLines allButTheFirst() {
        GapLines x = Check.store(4, 1, 0, 99, 50);
        x.all(1);
        x.set(1, 1);
        x.write(3, 1);
        x.set(1, 50);
        x.hammer(1, 1);
        x.hammer(2, 1);
        x.hammer(3, 1);
        return x;
    }

    private static void others(Sentences t) {
        t.of("8: the writes since the gap moved last");
        t.answers("none yet", 0, () -> Check.store(4, 1, 0, 99, 3), x -> x.about(8));
        t.answers("one less than for a move", 2, () -> Check.store(4, 1, 0, 99, 3), x -> sinceMove(x, 2));
        t.answers("as many as for a move", 0, () -> Check.store(4, 1, 0, 99, 3), x -> sinceMove(x, 3));
        t.answers("one more", 1, () -> Check.store(4, 1, 0, 99, 3), x -> sinceMove(x, 4));
        t.answers("one less than 50", 49, () -> Check.store(4, 1, 0, 99, 50), x -> sinceMove(x, 49));
        t.answers("the store is dead by the write that would move the gap", 5, () -> Check.store(4, 1, 0, 5, 5),
                x -> sinceMove(x, 5));
        t.answers("the store is dead by the move", 0, () -> Check.store(4, 1, 0, 5, 1), x -> sinceMove(x, 5));
        t.answers("more than setting 1, by a change of it", 9, () -> {
            GapLines x = Check.store(4, 1, 0, 99, 50);
            x.hammer(0, 9);
            x.set(1, 3);
            return x;
        }, x -> x.about(8));

        t.of("9: 1 if the store is dead, otherwise 0");
        t.answers("one write before", 0, () -> worn(0, 0, 4), x -> x.about(9));
        t.answers("behind that write", 1, () -> worn(0, 0, 5), x -> x.about(9));
        t.answers("no spare medium is left, but it lives", 0, () -> worn(1, 0, 5), x -> x.about(9));

        t.of("10: the media replaced so far");
        t.answers("none", 0, () -> worn(4, 0, 4), x -> x.about(10));
        t.answers("the first", 1, () -> worn(4, 0, 5), x -> x.about(10));
        t.answers("all 4", 4, () -> worn(4, 0, 17), x -> x.about(10));
        t.answers("the medium by which the store is dead is not replaced", 4, () -> worn(4, 0, 21), x -> x.about(10));

        t.of("11: how often something was laid so far (also once more, on a spare medium)");
        t.answers("none", 0, () -> worn(4, 0, 0), x -> x.about(11));
        t.answers("one write", 1, () -> worn(4, 0, 1), x -> x.about(11));
        t.answers("once more, on a spare medium", 6, () -> worn(4, 0, 5), x -> x.about(11));
        t.answers("not once more, if the store is dead", 5, () -> worn(0, 0, 5), x -> x.about(11));
        t.answers("also by a move", 2, () -> Stores.moved(4, 1, 1), x -> x.about(11));
        t.answers("also by a move from the place 0", 10, () -> Stores.moved(4, 1, 5), x -> x.about(11));
    }

    private static long sinceMove(GapLines x, int writes) {
        x.hammer(0, writes);
        return x.about(8);
    }

    public static void main(String[] args) {
        Sentences t = new Sentences("Promise 6");
        which(t);
        numbers(t);
        wears(t);
        others(t);
        t.end();
    }
}
