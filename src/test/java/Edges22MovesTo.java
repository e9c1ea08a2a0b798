/** Promise 22. */
public final class Edges22MovesTo {
    public static void main(String[] args) {
        Sentences t = new Sentences("Promise 22");
        t.of("Returns how many moves of the gap there have to be until it lies at another place than now.");
        t.answers("the line ahead of the gap, at n - 1: the least", 1, () -> Stores.moved(4, 1, 0), x -> x.movesTo(3));
        t.answers("the line at the place 0, the gap at n: the greatest", 4, () -> Stores.moved(4, 1, 0),
                x -> x.movesTo(0));
        t.answers("the line at the place 0, the gap at 1", 1, () -> Stores.moved(4, 1, 3), x -> x.movesTo(0));
        t.answers("the line at the place 0, the gap at 2", 2, () -> Stores.moved(4, 1, 2), x -> x.movesTo(0));
        t.answers("the line at the place n, the gap at 0", 1, () -> Stores.moved(4, 1, 4), x -> x.movesTo(3));
        t.answers("the line at the place n, the gap at n - 1", 4, () -> Stores.moved(4, 1, 1), x -> x.movesTo(3));
        t.answers("the line behind the gap, at 1: it stays when the start becomes greater", 4,
                () -> Stores.moved(4, 1, 4), x -> x.movesTo(0));
        t.answers("the line at n - 1, the gap at 0", 2, () -> Stores.moved(4, 1, 4), x -> x.movesTo(2));
        t.answers("the start is n - 1, the line at the place 0", 4, () -> Stores.moved(4, 1, 15), x -> x.movesTo(1));
        t.answers("the start is n - 1 and becomes 0", 1, () -> Stores.moved(4, 1, 19), x -> x.movesTo(0));
        t.answers("the start is n - 1 and becomes 0, the line stays", 4, () -> Stores.moved(4, 1, 19),
                x -> x.movesTo(1));
        t.answers("the greatest of 32 lines", 32, () -> Stores.moved(32, 31, 0), x -> x.movesTo(0));
        t.answers("the last of 32 lines", 31, () -> Stores.moved(32, 31, 0), x -> x.movesTo(31));
        t.answers("of a dead store", 3, Stores::dead, x -> x.movesTo(0));
        t.changesNothing("it changes nothing", Stores::rich, x -> x.movesTo(0));

        t.of("Throws `IndexOutOfBoundsException` if there is no such line");
        t.refusesLinesBeyond(GapLines::movesTo);
        t.end();
    }
}
