/** Promise 18. */
public final class Edges18Life {
    /** The line 0 of a new one can be written 2092 times; the last of them is the one by which the store is dead. */
    private static GapLines written(int times) {
        GapLines x = Check.store(4, 1, 0, 500, 50);
        x.hammer(0, times);
        return x;
    }

    private static void dies(Sentences t, String edge, int times, int due, int deadBehind2000) {
        t.answers(edge, due, () -> written(times), x -> x.life(0));
        t.test(edge + ", and so it is if it is hammered", c -> {
            GapLines x = written(times);
            int done = 0;
            for (int i = 0; i < 4; i++) {
                done += x.hammer(0, 500);
            }
            int all = done;
            c.answers("the writes of 2000", due, () -> all);
            c.answers("about(9)", deadBehind2000, () -> x.about(9));
        });
    }

    public static void main(String[] args) {
        Sentences t = new Sentences("Promise 18");
        t.of("Returns how many writes of this line could be done until the store is dead, the last one included;"
                + " 2000 if it would not be dead behind 2000.");
        dies(t, "1999 writes", 93, 1999, 1);
        dies(t, "2000 writes, dead by the last one", 92, 2000, 1);
        dies(t, "2001 writes: 2000", 91, 2000, 0);
        t.answers("many more", 2000, () -> Check.store(32, 1, 4, 999, 50), x -> x.life(31));
        t.answers("dead by the next write", 1, () -> Check.store(4, 1, 0, 5, 50), x -> {
            x.hammer(0, 4);
            return x.life(0);
        });
        t.answers("dead by the next write but one", 2, () -> Check.store(4, 1, 0, 5, 50), x -> {
            x.hammer(0, 3);
            return x.life(0);
        });
        t.answers("dead by the move behind the next write", 1, () -> Stores.gapAtThree(0), x -> x.life(0));
        t.answers("dead by the move from the place 0 behind the next write", 1, () -> Stores.gapAtZero(0),
                x -> x.life(1));
        t.answers("one spare medium: once more, and 4 times", 9, () -> Check.store(4, 1, 1, 5, 50), x -> x.life(0));
        t.answers("4 spare media", 21, () -> Check.store(4, 1, 4, 5, 50), x -> x.life(3));
        t.answers("no spare medium", 5, () -> Check.store(4, 1, 0, 5, 50), x -> x.life(3));
        t.answers("the line 31 of 32", 5, () -> Check.store(32, 1, 0, 5, 50), x -> x.life(31));
        t.answers("the store is dead already", 0, Stores::dead, x -> x.life(0));
        t.answers("the store is dead already by that line", 0, Stores::dead, x -> x.life(3));
        t.answers("a medium is worn more than setting 0", 1, Stores::calm, x -> {
            x.hammer(0, 20);
            x.set(0, 5);
            return x.life(0);
        });
        t.changesNothing("it changes nothing, though the store would be dead", Stores::rich, x -> x.life(0));

        t.of("Throws `IndexOutOfBoundsException` if there is no such line");
        t.refusesLinesBeyond(GapLines::life);
        t.end();
    }
}
