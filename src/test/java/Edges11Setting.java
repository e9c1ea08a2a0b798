/** Promise 11. */
public final class Edges11Setting {
    private static GapLines set(int endurance, int every) {
        GapLines x = new GapLines();
        x.set(0, endurance);
        x.set(1, every);
        return x;
    }

    public static void main(String[] args) {
        Sentences t = new Sentences("Promise 11");
        t.of("Returns that setting.");
        t.answers("setting 0 at first", 100, GapLines::new, x -> x.setting(0));
        t.answers("setting 1 at first", 8, GapLines::new, x -> x.setting(1));
        t.answers("the least setting 0", 5, () -> set(5, 50), x -> x.setting(0));
        t.answers("the greatest setting 0", 999, () -> set(999, 1), x -> x.setting(0));
        t.answers("the least setting 1", 1, () -> set(999, 1), x -> x.setting(1));
        t.answers("the greatest setting 1", 50, () -> set(5, 50), x -> x.setting(1));
        t.changesNothing("it changes nothing", Stores::rich, x -> x.setting(1));

        t.of("`what`: 0 or 1");
        t.refusesBeyondRange("what", 0, 1, GapLines::setting);

        t.of("Throws `IllegalArgumentException` if what is out of range");
        t.refuses("-1 without a store", Check.ARGUMENT, GapLines::new, x -> x.setting(-1));
        t.refuses("2 without a store", Check.ARGUMENT, GapLines::new, x -> x.setting(2));
        t.end();
    }
}
