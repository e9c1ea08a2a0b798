/** Promise 19. */
public final class Edges19LifeOfAll {
    private static void dies(Sentences t, String edge, int endurance, int spares, int due, int deadBehind4000) {
        t.answers(edge, due, () -> Check.store(5, 1, spares, endurance, 8), GapLines::lifeOfAll);
        t.test(edge + ", and so it is if they are written", c -> {
            GapLines x = Check.store(5, 1, spares, endurance, 8);
            int done = 0;
            for (int i = 0; i < 16; i++) {
                done += x.all(50);
            }
            int all = done;
            c.answers("the writes of 4000", due, () -> all);
            c.answers("about(9)", deadBehind4000, () -> x.about(9));
        });
    }

    public static void main(String[] args) {
        Sentences t = new Sentences("Promise 19");
        t.of("Tells how long the store lives, if all lines are written in turn, from the line 0 on.");
        t.answers("the line 0 is the first", 1, () -> hammered(0, 4), GapLines::lifeOfAll);
        t.answers("the line 1 is the second", 2, () -> hammered(1, 4), GapLines::lifeOfAll);
        t.answers("the line n - 1 is the last of a turn", 4, () -> hammered(3, 4), GapLines::lifeOfAll);
        t.answers("the line 0 is the first of the second turn", 5, () -> hammered(0, 3), GapLines::lifeOfAll);
        t.answers("the line 31 of 32 is the last of a turn", 32, () -> {
            GapLines x = Check.store(32, 1, 0, 5, 50);
            x.hammer(31, 4);
            return x;
        }, GapLines::lifeOfAll);

        t.of("Returns how many writes could be done until the store is dead, the last one included;"
                + " 4000 if it would not be dead behind 4000.");
        dies(t, "3999 writes", 751, 0, 3999, 1);
        dies(t, "4000 writes, dead by the last one", 751, 1, 4000, 1);
        dies(t, "4001 writes: 4000", 750, 4, 4000, 0);
        t.answers("the 4001st write is the one by which it is dead", 1, () -> Check.store(5, 1, 4, 750, 8), x -> {
            for (int i = 0; i < 16; i++) {
                x.all(50);
            }
            return x.lifeOfAll();
        });
        t.answers("many more", 4000, () -> Check.store(32, 1, 4, 999, 50), GapLines::lifeOfAll);
        t.answers("no spare medium", 17, () -> Check.store(4, 1, 0, 5, 50), GapLines::lifeOfAll);
        t.answers("one spare medium", 18, () -> Check.store(4, 1, 1, 5, 50), GapLines::lifeOfAll);
        t.answers("dead by the move behind the next write", 1, () -> Stores.gapAtThree(0), GapLines::lifeOfAll);
        t.answers("dead by the move from the place 0 behind the next write", 1, () -> Stores.gapAtZero(0),
                GapLines::lifeOfAll);
        t.answers("the store is dead already", 0, Stores::dead, GapLines::lifeOfAll);
        t.changesNothing("it changes nothing, though the store would be dead", Stores::rich, GapLines::lifeOfAll);

        t.of("Throws `IllegalStateException` if there is no store");
        t.refuses("a new object", Check.STATE, GapLines::new, GapLines::lifeOfAll);
        t.refuses("the store is undone", Check.STATE, () -> {
            GapLines x = Check.store(4, 1, 0);
            x.undo();
            return x;
        }, GapLines::lifeOfAll);
        t.refuses("a story has made none", Check.STATE, () -> Check.loaded("L04040"), GapLines::lifeOfAll);
        t.end();
    }

    /** The line has worn its place, where each medium can be written 5 times. */
    private static GapLines hammered(int line, int times) {
        GapLines x = Check.store(4, 1, 0, 5, 50);
        x.hammer(line, times);
        return x;
    }
}
