/** Promise 21. */
public final class Edges21BestEvery {
    public static void main(String[] args) {
        Sentences t = new Sentences("Promise 21");
        t.of("Returns the value, 1 to 50, with which ifEvery(l, it, m) is least, of several the greatest value.");
        t.answers("all 50 are the same", 50, Stores::calm, x -> x.bestEvery(3, 1));
        t.answers("all 50 are the same, as the store is dead", 50, Stores::dead, x -> x.bestEvery(3, 500));
        // With 1, the gap is moved by each write: so the line 0 comes away from its place soonest.
        t.answers("1 is least alone", 1, () -> Stores.calm(32), x -> x.bestEvery(0, 500));
        // 3 writes: with 2, two at the place 3 and one behind a move; with 1, all but the first at the place 4.
        t.answers("2 is least alone", 2, Stores::calm, x -> x.bestEvery(3, 3));
        // 2 writes more at a place that is worn 48 times: with 49 or less, the second is done elsewhere.
        t.answers("2 to 49 are the same", 49, Edges21BestEvery::worn, x -> x.bestEvery(3, 2));
        t.answers("50 is as good as all others for the next write", 50, Edges21BestEvery::worn,
                x -> x.bestEvery(3, 1));
        // The gap is at a place that is worn 50 times, and by 50 writes all values move it once or more.
        t.answers("51 would be better than all others, but is none", 50, () -> {
            GapLines x = Stores.calm();
            x.hammer(3, 50);
            return x;
        }, x -> x.bestEvery(0, 50));
        t.test("it is the last of those with which ifEvery() is least", c -> {
            for (int m : new int[] {1, 49, 50, 51, 500}) {
                GapLines x = Check.store(4, 3, 4, 30, 8);
                int least = Integer.MAX_VALUE;
                int last = 0;
                for (int every = 1; every <= 50; every++) {
                    int wear = x.ifEvery(2, every, m);
                    last = wear <= least ? every : last;
                    least = Math.min(wear, least);
                }
                int due = last;
                c.answers("bestEvery(2, " + m + ")", due, () -> x.bestEvery(2, m));
            }
        });
        t.changesNothing("it changes nothing", Stores::rich, x -> x.bestEvery(0, 500));

        t.of("`m`: 1 to 500");
        t.refusesBeyondRange("m", 1, 500, (x, m) -> x.bestEvery(0, m));

        t.of("Throws `IllegalArgumentException` if m is out of range");
        t.refuses("m is 0, and the store is dead", Check.ARGUMENT, Stores::dead, x -> x.bestEvery(0, 0));
        t.refuses("m is 501, and the store is dead", Check.ARGUMENT, Stores::dead, x -> x.bestEvery(0, 501));

        t.of("Throws `IndexOutOfBoundsException` if there is no such line");
        t.refusesLinesBeyond((x, l) -> x.bestEvery(l, 1));
        t.refuses("and m is too small", Check.INDEX, x -> x.bestEvery(4, 0));
        t.refuses("and m is too large", Check.INDEX, x -> x.bestEvery(-1, 501));
        t.refuses("no store, and m is too large", Check.INDEX, GapLines::new, x -> x.bestEvery(0, 501));
        t.end();
    }

    private static GapLines worn() {
        GapLines x = Stores.calm();
        x.hammer(3, 48);
        return x;
    }
}
