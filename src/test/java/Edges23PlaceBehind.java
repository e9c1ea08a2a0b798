/** Promise 23. */
public final class Edges23PlaceBehind {
    public static void main(String[] args) {
        Sentences t = new Sentences("Promise 23");
        t.of("Returns the place, if the gap had moved m times more.");
        t.answers("no move, the gap at n", 3, () -> Stores.moved(4, 1, 0), x -> x.placeBehind(3, 0));
        t.answers("no move, the gap at 0", 4, () -> Stores.moved(4, 1, 4), x -> x.placeBehind(3, 0));
        t.answers("one move, the line is ahead of the gap", 4, () -> Stores.moved(4, 1, 0), x -> x.placeBehind(3, 1));
        t.answers("one move, the line is further ahead", 2, () -> Stores.moved(4, 1, 0), x -> x.placeBehind(2, 1));
        t.answers("one move less than to the place 0", 0, () -> Stores.moved(4, 1, 0), x -> x.placeBehind(0, 3));
        t.answers("the gap comes to the place 0", 1, () -> Stores.moved(4, 1, 0), x -> x.placeBehind(0, 4));
        t.answers("the gap goes from the place 0: the line n - 1 comes to 0", 0, () -> Stores.moved(4, 1, 0),
                x -> x.placeBehind(3, 5));
        t.answers("the gap goes from the place 0: the line 0 stays", 1, () -> Stores.moved(4, 1, 0),
                x -> x.placeBehind(0, 5));
        t.answers("the gap is at 0 now, and goes from there", 0, () -> Stores.moved(4, 1, 4),
                x -> x.placeBehind(3, 1));
        t.answers("the start becomes 0 again", 0, () -> Stores.moved(4, 1, 0), x -> x.placeBehind(0, 20));
        t.answers("one move less than that", 4, () -> Stores.moved(4, 1, 0), x -> x.placeBehind(0, 19));
        t.answers("the start is n - 1 now, and becomes 0", 0, () -> Stores.moved(4, 1, 19), x -> x.placeBehind(0, 1));
        // 9999 is 499 times 20 and 19: the start is 3 then, and the gap the place 0.
        t.answers("9999 moves of 4 lines, the line 0", 4, () -> Stores.moved(4, 1, 0), x -> x.placeBehind(0, 9999));
        t.answers("9999 moves of 4 lines, the line 1", 1, () -> Stores.moved(4, 1, 0), x -> x.placeBehind(1, 9999));
        t.answers("9998 moves of 4 lines, the line 1", 0, () -> Stores.moved(4, 1, 0), x -> x.placeBehind(1, 9998));
        // 9999 is 9 times 32 * 33 and 15 times 33: the start is 15 then, and the gap the place 32.
        t.answers("9999 moves of 32 lines", 15, () -> Stores.moved(32, 1, 0), x -> x.placeBehind(0, 9999));
        t.answers("9999 moves of 32 lines, the last line", 14, () -> Stores.moved(32, 1, 0),
                x -> x.placeBehind(31, 9999));
        t.answers("no move of a dead store", 1, Stores::dead, x -> x.placeBehind(0, 0));
        t.changesNothing("it changes nothing", Stores::rich, x -> x.placeBehind(0, 9999));

        t.of("`m`: 0 to 9999");
        t.refusesBeyondRange("m", 0, 9999, (x, m) -> x.placeBehind(0, m));

        t.of("Throws `IllegalArgumentException` if m is out of range");
        t.refuses("m is -1, and the store is dead", Check.ARGUMENT, Stores::dead, x -> x.placeBehind(0, -1));
        t.refuses("m is 10000, and the store is dead", Check.ARGUMENT, Stores::dead, x -> x.placeBehind(0, 10000));

        t.of("Throws `IndexOutOfBoundsException` if there is no such line");
        t.refusesLinesBeyond((x, l) -> x.placeBehind(l, 0));
        t.refuses("and m is too small", Check.INDEX, x -> x.placeBehind(4, -1));
        t.refuses("and m is too large", Check.INDEX, x -> x.placeBehind(-1, 10000));
        t.refuses("no store, and m is too large", Check.INDEX, GapLines::new, x -> x.placeBehind(0, 10000));
        t.end();
    }
}
