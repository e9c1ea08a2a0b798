/** Promise 14. */
public final class Edges14Hammer {
    private static GapLines frail(int spares) {
        GapLines x = Check.store(4, 1, spares, 5, 50);
        x.write(2, 999);
        return x;
    }

    public static void main(String[] args) {
        Sentences t = new Sentences("Promise 14");
        t.of("Writes a line several times, one after the other, with its value;"
                + " less often, if the store is dead on the way.");
        t.answers("the greatest value stays", 999, () -> frail(0), x -> {
            x.hammer(2, 2);
            return x.read(2);
        });
        t.answers("the least value stays", 0, Stores::calm, x -> {
            x.hammer(2, 500);
            return x.read(2);
        });
        t.answers("the value stays when the store dies", 999, () -> frail(0), x -> {
            x.hammer(2, 500);
            return x.read(2);
        });
        t.answers("it is done where the line has come by a move", 2, () -> Check.store(4, 1, 0, 99, 2), x -> {
            x.hammer(3, 3);
            return x.wear(4);
        });
        t.answers("all of it is one action", 4, () -> frail(0), x -> {
            x.hammer(2, 3);
            return x.undo();
        });

        t.of("Returns how often it is written.");
        t.answers("once", 1, Stores::calm, x -> x.hammer(0, 1));
        t.answers("500 times", 500, Stores::calm, x -> x.hammer(0, 500));
        t.answers("500 times: so many writes", 500, Stores::calm, x -> {
            x.hammer(0, 500);
            return x.about(4);
        });
        t.answers("one less than by which the store is dead", 3, () -> frail(0), x -> x.hammer(2, 3));
        t.answers("as many as by which the store is dead", 4, () -> frail(0), x -> x.hammer(2, 4));
        t.answers("one more than by which the store is dead", 4, () -> frail(0), x -> x.hammer(2, 5));
        t.answers("500, and the store is dead behind the last spare medium", 20, () -> frail(4),
                x -> x.hammer(2, 500));
        t.answers("dead by the first one", 1, () -> {
            GapLines x = frail(0);
            x.hammer(2, 3);
            return x;
        }, x -> x.hammer(2, 500));
        t.answers("dead by a move on the way", 5, () -> Check.store(4, 1, 0, 5, 1), x -> x.hammer(0, 500));
        t.answers("dead before it", 0, Stores::dead, x -> x.hammer(0, 1));
        t.answers("dead before it, the greatest number", 0, Stores::dead, x -> x.hammer(3, 500));

        t.of("`m`: 1 to 500");
        t.refusesBeyondRange("m", 1, 500, (x, m) -> x.hammer(0, m));

        t.of("Throws `IllegalArgumentException` if m is out of range");
        t.refuses("m is 0, and the store is dead", Check.ARGUMENT, Stores::dead, x -> x.hammer(0, 0));
        t.refuses("m is 501, and the store is dead", Check.ARGUMENT, Stores::dead, x -> x.hammer(0, 501));

        t.of("Throws `IndexOutOfBoundsException` if there is no such line");
        t.refusesLinesBeyond((x, l) -> x.hammer(l, 1));
        t.refuses("and m is too small", Check.INDEX, x -> x.hammer(4, 0));
        t.refuses("and m is too large", Check.INDEX, x -> x.hammer(-1, 501));
        t.refuses("no store, and m is too large", Check.INDEX, GapLines::new, x -> x.hammer(0, 501));
        t.end();
    }
}
