/** Promise 16; what the settings do is tested by EdgesSettings. */
public final class Edges16Set {
    private static GapLines set(int what, int v) {
        GapLines x = new GapLines();
        x.set(what, v);
        return x;
    }

    public static void main(String[] args) {
        Sentences t = new Sentences("Promise 16");
        t.of("Returns the previous one.");
        t.answers("setting 0 at first", 100, GapLines::new, x -> x.set(0, 999));
        t.answers("setting 1 at first", 8, GapLines::new, x -> x.set(1, 50));
        t.answers("the least setting 0", 5, () -> set(0, 5), x -> x.set(0, 999));
        t.answers("the greatest setting 0", 999, () -> set(0, 999), x -> x.set(0, 5));
        t.answers("the least setting 1", 1, () -> set(1, 1), x -> x.set(1, 50));
        t.answers("the greatest setting 1", 50, () -> set(1, 50), x -> x.set(1, 1));
        t.answers("it becomes what it is", 5, () -> set(0, 5), x -> x.set(0, 5));
        t.answers("setting 1 stays if setting 0 is changed", 8, () -> set(0, 50), x -> x.setting(1));
        t.answers("setting 0 stays if setting 1 is changed", 100, () -> set(1, 50), x -> x.setting(0));
        t.answers("a call that throws leaves it", 100, GapLines::new, x -> {
            Check.outcome(() -> x.set(0, 4));
            return x.set(0, 5);
        });
        t.answers("of a dead store", 5, Stores::dead, x -> x.set(0, 999));

        t.of("`what`: 0 or 1");
        t.refusesBeyondRange("what", 0, 1, (x, what) -> x.set(what, 50));
        t.refuses("what is 2, and v is right for both", Check.ARGUMENT, GapLines::new, x -> x.set(2, 5));

        t.of("`v`: the new value, in its range");
        t.refusesBeyondRange("v of setting 0", 5, 999, (x, v) -> x.set(0, v));
        t.refusesBeyondRange("v of setting 1", 1, 50, (x, v) -> x.set(1, v));

        t.of("Throws `IllegalArgumentException` if what or v is out of range");
        t.refuses("v is right for setting 1 alone", Check.ARGUMENT, x -> x.set(0, 1));
        t.refuses("v is right for setting 0 alone", Check.ARGUMENT, x -> x.set(1, 999));
        t.refuses("what and v are out of range", Check.ARGUMENT, x -> x.set(-1, 0));
        t.end();
    }
}
