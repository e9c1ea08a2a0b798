/** Promise 8; where a line lies by the words of the terms is tested by EdgesLinesAndPlaces. */
public final class Edges08Place {
    public static void main(String[] args) {
        Sentences t = new Sentences("Promise 8");
        t.of("Returns the place.");
        t.answers("the least", 0, () -> Stores.moved(4, 3, 0), x -> x.place(0));
        t.answers("the greatest, while the gap is the place n", 3, () -> Stores.moved(4, 3, 0), x -> x.place(1));
        t.answers("the greatest of all: the place n", 4, () -> Stores.moved(4, 3, 1), x -> x.place(1));
        t.answers("the least, while the gap is the place 0", 1, () -> Stores.moved(4, 3, 4), x -> x.place(0));
        t.answers("the least again, behind a round", 0, () -> Stores.moved(4, 3, 5), x -> x.place(1));
        t.answers("the place n of 32 lines", 32, () -> Stores.moved(32, 31, 1), x -> x.place(1));
        t.answers("the last of 32 lines", 1, () -> Stores.moved(32, 31, 1), x -> x.place(31));
        t.answers("of a dead store", 0, Stores::dead, x -> x.place(3));
        t.changesNothing("it changes nothing", Stores::rich, x -> x.place(3));

        t.of("Throws `IndexOutOfBoundsException` if there is no such line");
        t.refusesLinesBeyond(GapLines::place);
        t.end();
    }
}
