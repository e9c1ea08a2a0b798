/** Promise 13; what a write does is tested by EdgesWriting and EdgesWear. */
public final class Edges13Write {
    public static void main(String[] args) {
        Sentences t = new Sentences("Promise 13");
        t.of("Returns the value that it had.");
        t.answers("it was never written", 0, Stores::calm, x -> x.write(3, 999));
        t.answers("the greatest value", 999, Stores::calm, x -> {
            x.write(3, 999);
            return x.write(3, 0);
        });
        t.answers("the least value", 0, Stores::calm, x -> {
            x.write(3, 999);
            x.write(3, 0);
            return x.write(3, 1);
        });
        t.answers("the last of 32 lines", 999, () -> Stores.calm(32), x -> {
            x.write(31, 999);
            return x.write(31, 1);
        });
        t.answers("the write by which the store is dead", 10, Check::exampleBehindRound, x -> {
            x.write(3, 10);
            return x.write(3, 11);
        });
        t.answers("a write that throws leaves the value", 999, Stores::calm, x -> {
            x.write(3, 999);
            Check.outcome(() -> x.write(3, 1000));
            return x.write(3, 5);
        });

        t.of("`v`: 0 to 999");
        t.refusesBeyondRange("v", 0, 999, (x, v) -> x.write(3, v));

        t.of("Throws `IndexOutOfBoundsException` if there is no such line");
        t.refusesLinesBeyond((x, l) -> x.write(l, 5));
        t.refuses("and v is out of range", Check.INDEX, x -> x.write(4, 1000));
        t.refuses("and the store is dead", Check.INDEX, Stores::dead, x -> x.write(-1, 0));
        t.refuses("no store, and v is out of range", Check.INDEX, GapLines::new, x -> x.write(0, -1));

        t.of("Throws `IllegalArgumentException` if v is out of range");
        t.refuses("and the store is dead", Check.ARGUMENT, Stores::dead, x -> x.write(0, 1000));
        t.refuses("v is -1, and the store is dead", Check.ARGUMENT, Stores::dead, x -> x.write(0, -1));

        t.of("Throws `IllegalStateException` if the store is dead");
        t.refuses("the line by which it is dead", Check.STATE, Stores::dead, x -> x.write(3, 0));
        t.refuses("another line", Check.STATE, Stores::dead, x -> x.write(0, 0));
        t.refuses("the greatest value", Check.STATE, Stores::dead, x -> x.write(3, 999));
        t.refuses("setting 0 is greater now", Check.STATE, () -> {
            GapLines x = Stores.dead();
            x.set(0, 999);
            return x;
        }, x -> x.write(3, 0));
        t.answers("no spare medium is left, but it is not dead", 8, Stores::rich, x -> x.write(0, 5));
        t.answers("it is not dead when that is undone", 10, Stores::dead, x -> {
            x.undo();
            return x.write(3, 5);
        });
        t.answers("a new store behind it is not dead", 0, Stores::dead, x -> {
            x.make(4, 1, 0);
            return x.write(3, 5);
        });
        t.end();
    }
}
