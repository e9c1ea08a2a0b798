/** Promise 9. */
public final class Edges09Line {
    public static void main(String[] args) {
        Sentences t = new Sentences("Promise 9");
        t.of("Returns the line; NONE if it is the gap.");
        t.answers("the gap is the place n", -1, () -> Stores.moved(4, 3, 0), x -> x.line(4));
        t.answers("ahead of the gap, at n - 1", 1, () -> Stores.moved(4, 3, 0), x -> x.line(3));
        t.answers("the place 0, while the gap is the place n", 0, () -> Stores.moved(4, 3, 0), x -> x.line(0));
        t.answers("the gap is the place n - 1", -1, () -> Stores.moved(4, 3, 1), x -> x.line(3));
        t.answers("the place n, behind the gap", 1, () -> Stores.moved(4, 3, 1), x -> x.line(4));
        t.answers("the gap is the place 1", -1, () -> Stores.moved(4, 3, 3), x -> x.line(1));
        t.answers("the place 0, ahead of the gap", 0, () -> Stores.moved(4, 3, 3), x -> x.line(0));
        t.answers("the gap is the place 0", -1, () -> Stores.moved(4, 3, 4), x -> x.line(0));
        t.answers("the place 1, behind the gap", 0, () -> Stores.moved(4, 3, 4), x -> x.line(1));
        t.answers("the gap is the place n again", -1, () -> Stores.moved(4, 3, 5), x -> x.line(4));
        t.answers("the last line is at the place 0 behind a round", 1, () -> Stores.moved(4, 3, 5), x -> x.line(0));
        t.answers("the last of 32 lines", 31, () -> Stores.moved(32, 1, 1), x -> x.line(32));
        t.answers("the gap of a dead store", -1, Stores::dead, x -> x.line(4));
        t.changesNothing("it changes nothing", Stores::rich, x -> x.line(4));

        t.of("Throws `IndexOutOfBoundsException` if there is no such place");
        t.refusesPlacesBeyond(GapLines::line);
        t.end();
    }
}
