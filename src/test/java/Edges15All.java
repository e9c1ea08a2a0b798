/** Promise 15. */
public final class Edges15All {
    /** 4 lines whose gap hardly moves; the line has so few writes left that the store is dead by the next but one. */
    private static GapLines frail(int line) {
        GapLines x = Check.store(4, 1, 0, 5, 50);
        x.hammer(line, 3);
        return x;
    }

    public static void main(String[] args) {
        Sentences t = new Sentences("Promise 15");
        t.of("Writes all lines in turn, from the line 0 on, with their values, and all that several times;"
                + " less often, if the store is dead on the way.");
        t.test("the line 0 is the first, the line n - 1 the last", c -> {
            GapLines x = Stores.calm();
            x.all(1);
            for (int p = 0; p < 4; p++) {
                int place = p;
                c.answers("wear(" + p + ")", 1, () -> x.wear(place));
            }
        });
        t.answers("dead by the line 0: the line 1 is not written then", 1, () -> frail(0), x -> {
            x.all(50);
            return x.wear(1);
        });
        t.answers("dead by the line n - 1: the line 0 is written before", 2, () -> frail(3), x -> {
            x.all(50);
            return x.wear(0);
        });
        t.answers("the values stay", 999, Stores::calm, x -> {
            x.write(3, 999);
            x.all(50);
            return x.read(3);
        });
        t.answers("all of it is one action", 3, Stores::calm, x -> {
            x.all(50);
            return x.undo();
        });

        t.of("Returns how many writes are done.");
        t.answers("once of 4 lines", 4, Stores::calm, x -> x.all(1));
        t.answers("50 times of 4 lines", 200, Stores::calm, x -> x.all(50));
        t.answers("50 times of 32 lines", 1600, () -> Stores.calm(32), x -> x.all(50));
        t.answers("once of 32 lines", 32, () -> Stores.calm(32), x -> x.all(1));
        t.answers("dead by the line 0 of the second turn", 5, () -> frail(0), x -> x.all(50));
        t.answers("dead by the line n - 1 of the second turn", 8, () -> frail(3), x -> x.all(50));
        t.answers("dead by the last write of all", 8, () -> frail(3), x -> x.all(2));
        t.answers("dead by the last write but three", 5, () -> frail(0), x -> x.all(2));
        t.answers("one turn less than by which it is dead", 4, () -> frail(0), x -> x.all(1));
        t.answers("dead before it", 0, Stores::dead, x -> x.all(1));
        t.answers("dead before it, the greatest number", 0, Stores::dead, x -> x.all(50));

        t.of("`m`: 1 to 50");
        t.refusesBeyondRange("m", 1, 50, GapLines::all);
        t.refuses("m is 0, and the store is dead", Check.ARGUMENT, Stores::dead, x -> x.all(0));
        t.refuses("m is 51, and the store is dead", Check.ARGUMENT, Stores::dead, x -> x.all(51));

        t.of("Throws `IllegalArgumentException` if m is out of range");
        t.refuses("there is no store: m is tested first", Check.ARGUMENT, GapLines::new, x -> x.all(0));
        t.refuses("there is no store, and m is too large", Check.ARGUMENT, GapLines::new, x -> x.all(51));

        t.of("Throws `IllegalStateException` if there is no store");
        t.refuses("the least m", Check.STATE, GapLines::new, x -> x.all(1));
        t.refuses("the greatest m", Check.STATE, GapLines::new, x -> x.all(50));
        t.refuses("the store is undone", Check.STATE, () -> {
            GapLines x = Check.store(4, 1, 0);
            x.undo();
            return x;
        }, x -> x.all(1));
        t.refuses("a story has made none", Check.STATE, () -> Check.loaded("L04020"), x -> x.all(1));
        t.end();
    }
}
