/** Promise 20. The line n - 1 comes to another place by the first move of all. */
public final class Edges20IfEvery {
    public static void main(String[] args) {
        Sentences t = new Sentences("Promise 20");
        t.of("Returns the greatest wear of a place, if setting 1 was every, and the line was hammered m times then.");
        t.answers("one write", 1, Stores::calm, x -> x.ifEvery(3, 50, 1));
        t.answers("one write, and a move by it", 1, Stores::calm, x -> x.ifEvery(3, 1, 1));
        t.answers("two writes, and a move by each", 2, Stores::calm, x -> x.ifEvery(3, 1, 2));
        t.answers("as many writes as every", 50, Stores::calm, x -> x.ifEvery(3, 50, 50));
        t.answers("one more: it is written elsewhere", 50, Stores::calm, x -> x.ifEvery(3, 50, 51));
        t.answers("one more than 49", 49, Stores::calm, x -> x.ifEvery(3, 49, 50));
        t.answers("500 writes at one place", 500, () -> Stores.calm(32), x -> x.ifEvery(0, 50, 500));
        t.answers("499 writes at one place", 499, () -> Stores.calm(32), x -> x.ifEvery(0, 50, 499));
        t.answers("9 writes were done since the gap moved last: it moves by the next one", 10,
                Edges20IfEvery::writtenBefore, x -> x.ifEvery(3, 10, 2));
        t.answers("9 writes were done since the gap moved last: it moves by the second", 11,
                Edges20IfEvery::writtenBefore, x -> x.ifEvery(3, 11, 2));
        t.answers("9 writes were done since the gap moved last, more than every", 10, Edges20IfEvery::writtenBefore,
                x -> x.ifEvery(3, 2, 2));
        t.answers("the setting 1 that there is does not matter", 49, () -> Check.store(4, 1, 0, 999, 1),
                x -> x.ifEvery(3, 49, 50));
        t.answers("the store is dead on the way", 5, () -> Check.store(4, 1, 0, 5, 50), x -> x.ifEvery(3, 50, 500));
        t.answers("the store is dead on the way by a move", 5, () -> Check.store(4, 1, 0, 5, 50),
                x -> x.ifEvery(0, 1, 500));
        t.answers("one write less than by which the last spare medium is taken", 4, () -> Check.store(4, 1, 1, 5, 50),
                x -> x.ifEvery(0, 50, 4));
        t.answers("the last spare medium is taken by the last write", 1, () -> Check.store(4, 1, 1, 5, 50),
                x -> x.ifEvery(0, 50, 5));
        t.answers("the store is dead already: the wear that there is", 5, Stores::dead, x -> x.ifEvery(0, 1, 500));
        t.changesNothing("it changes nothing, also not the setting", Stores::rich, x -> x.ifEvery(0, 50, 500));

        t.of("`every`: 1 to 50");
        t.refusesBeyondRange("every", 1, 50, (x, every) -> x.ifEvery(0, every, 1));

        t.of("`m`: 1 to 500");
        t.refusesBeyondRange("m", 1, 500, (x, m) -> x.ifEvery(0, 1, m));

        t.of("Throws `IllegalArgumentException` if another argument is out of range");
        t.refuses("every and m are too small", Check.ARGUMENT, x -> x.ifEvery(0, 0, 0));
        t.refuses("every and m are too large", Check.ARGUMENT, x -> x.ifEvery(3, 51, 501));
        t.refuses("every is 51, and the store is dead", Check.ARGUMENT, Stores::dead, x -> x.ifEvery(0, 51, 1));
        t.refuses("m is 501, and the store is dead", Check.ARGUMENT, Stores::dead, x -> x.ifEvery(0, 1, 501));

        t.of("Throws `IndexOutOfBoundsException` if there is no such line");
        t.refusesLinesBeyond((x, l) -> x.ifEvery(l, 1, 1));
        t.refuses("and every is too small", Check.INDEX, x -> x.ifEvery(4, 0, 1));
        t.refuses("and m is too large", Check.INDEX, x -> x.ifEvery(-1, 1, 501));
        t.refuses("no store, and all is wrong", Check.INDEX, GapLines::new, x -> x.ifEvery(0, 51, 0));
        t.end();
    }

    private static GapLines writtenBefore() {
        GapLines x = Stores.calm();
        x.hammer(3, 9);
        return x;
    }
}
