/** Promise 10; how a medium wears is tested by EdgesWear. */
public final class Edges10Wear {
    private static GapLines worn(int writes) {
        GapLines x = Check.store(4, 1, 0, 5, 50);
        for (int i = 0; i < writes; i++) {
            x.write(0, i);
        }
        return x;
    }

    public static void main(String[] args) {
        Sentences t = new Sentences("Promise 10");
        t.of("Returns the wear of its medium.");
        t.answers("the least", 0, () -> worn(0), x -> x.wear(0));
        t.answers("one less than setting 0", 4, () -> worn(4), x -> x.wear(0));
        t.answers("setting 0, of a dead store", 5, () -> worn(5), x -> x.wear(0));
        t.answers("more than setting 0, by a change of it", 20, () -> {
            GapLines x = Stores.calm();
            x.hammer(0, 20);
            x.set(0, 5);
            return x;
        }, x -> x.wear(0));
        t.answers("of the gap, at the place n", 0, () -> worn(4), x -> x.wear(4));
        t.answers("of the gap, at the place 0", 4, () -> Stores.moved(4, 1, 4), x -> x.wear(0));
        t.answers("of the gap, at the place n again", 1, () -> Stores.moved(4, 1, 5), x -> x.wear(4));
        t.answers("of the place 32", 1, () -> Stores.moved(32, 1, 1), x -> x.wear(32));
        t.answers("a new medium", 1, Stores::rich, x -> x.wear(0));
        t.changesNothing("it changes nothing", Stores::rich, x -> x.wear(4));

        t.of("Throws `IndexOutOfBoundsException` if there is no such place");
        t.refusesPlacesBeyond(GapLines::wear);
        t.end();
    }
}
