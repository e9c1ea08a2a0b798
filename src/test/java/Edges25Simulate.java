import java.math.BigInteger;

/** Promise 25. */
public final class Edges25Simulate {
    private static final BigInteger ROUND = BigInteger.ONE.shiftLeft(64);
    private static final long INVERSE = BigInteger.valueOf(6364136223846793005L).modInverse(ROUND).longValue();

    /** The seed with which the first write computes this r. */
    private static long seedOf(int r) {
        return (((long) r << 33) - 1442695040888963407L) * INVERSE;
    }

    /** The line has worn its place 10 times, no other place is worn: so one write more of it is seen. */
    private static GapLines worn(int n, int line) {
        GapLines x = Stores.calm(n);
        x.hammer(line, 10);
        return x;
    }

    private static void writes(Sentences t, String edge, int n, int r, int line) {
        t.answers(edge, 11, () -> worn(n, line), x -> x.simulate(seedOf(r), 1));
        t.answers(edge + ", and no other one", 10, () -> worn(n, (line + 1) % n), x -> x.simulate(seedOf(r), 1));
    }

    private static void lines(Sentences t) {
        t.of("The line is 0 if r % 4 is 0, otherwise the rest of r / 4 by n");
        writes(t, "r is 0, the least: the line 0", 4, 0, 0);
        writes(t, "r is 1: the line 0, as r / 4 is 0", 4, 1, 0);
        writes(t, "r is 3: the line 0, as r / 4 is 0", 4, 3, 0);
        writes(t, "r is 4: the line 0, though r / 4 is 1", 4, 4, 0);
        writes(t, "r is 5: the line 1", 4, 5, 1);
        writes(t, "r is 4 * n - 1: the last line of 4", 4, 15, 3);
        writes(t, "r is 4 * n + 1: the line 0, as the rest is", 4, 17, 0);
        writes(t, "r is 4 * n - 1: the last line of 32", 32, 127, 31);
        writes(t, "r is 4 * n + 1 of 32 lines", 32, 129, 0);
        writes(t, "r is the greatest int: r / 4 is 536870911, and its rest by 5 is 1", 5, Integer.MAX_VALUE, 1);
        writes(t, "r is the greatest that 4 divides: the line 0", 5, Integer.MAX_VALUE - 3, 0);

        t.of("(with long overflow), and r = (int) (x >>> 33) is computed");
        t.answers("the lower 33 bits do not matter: r is 7", 11, () -> worn(4, 1),
                x -> x.simulate(seedOf(7) + INVERSE * ((1L << 33) - 1), 1));
        t.answers("1 more, and r is 8", 10, () -> worn(4, 1), x -> x.simulate(seedOf(7) + INVERSE * (1L << 33), 1));
        t.answers("the highest bit of x is no sign: r / 4 is 268435456, and its rest by 5 is 1", 11, () -> worn(5, 1),
                x -> x.simulate(seedOf(1 << 30 | 1), 1));
        t.allows("the seed 0", x -> x.simulate(0, 300));
        t.allows("the least long as the seed", x -> x.simulate(Long.MIN_VALUE, 300));
        t.allows("the greatest long as the seed", x -> x.simulate(Long.MAX_VALUE, 300));
    }

    private static void answers(Sentences t) {
        t.of("nothing is done without a store");
        t.changesNothing("no store yet", GapLines::new, x -> x.simulate(1, 300));
        t.answers("no store yet: there is none behind it", 0, GapLines::new, x -> {
            x.simulate(1, 300);
            return x.about(0) + x.about(11);
        });

        t.of("it is written with the value r / 128 % 1000, if the store is not dead.");
        t.answers("it is dead from the beginning", 5, Stores::dead, x -> x.simulate(seedOf(0), 1));
        t.answers("it is dead from the beginning, 300 writes", 5, Stores::dead, x -> x.simulate(seedOf(0), 300));
        t.answers("it is dead by the first write: the second is not done", 5, () -> frail(3), x -> {
            x.write(0, 1);
            return x.simulate(seedOf(0), 300);
        });
        t.answers("one write less: it is not dead yet", 4, () -> frail(3), x -> x.simulate(seedOf(0), 1));

        t.of("Returns 1000 * (the moves of the gap in them) + (the greatest wear of a place at the end);"
                + " 0 without a store.");
        t.answers("no store yet, one write", 0, GapLines::new, x -> x.simulate(1, 1));
        t.answers("no store yet, 300 writes", 0, GapLines::new, x -> x.simulate(-1, 300));
        t.answers("the store is undone", 0, () -> {
            GapLines x = Stores.calm();
            x.undo();
            return x;
        }, x -> x.simulate(1, 300));
        t.answers("one write less than for a move", 8, () -> written(7), x -> x.simulate(seedOf(0), 1));
        t.answers("a move by the write", 1009, () -> written(8), x -> x.simulate(seedOf(0), 1));
        t.answers("the moves before do not count", 1007, () -> Stores.moved(4, 1, 7), x -> {
            x.set(1, 50);
            x.hammer(0, 6 - x.wear(x.place(0)));
            x.set(1, 1);
            return x.simulate(seedOf(0), 1);
        });
        t.answers("one write of 300 by every", 300, () -> Stores.moved(32, 1, 0), x -> x.simulate(1, 300) / 1000);
        t.answers("one write, and a move by it", 1, () -> Stores.moved(32, 1, 0), x -> x.simulate(1, 1) / 1000);
        t.answers("50 writes for a move: 6 of 300", 6, () -> Stores.calm(32), x -> x.simulate(1, 300) / 1000);
        t.answers("50 writes for a move: 5 of 299", 5, () -> Stores.calm(32), x -> x.simulate(1, 299) / 1000);
        t.answers("the store is dead already: its wear alone", 5, Stores::dead, x -> x.simulate(1, 300));
        t.answers("the store is dead by the first write, whichever line it is", 5, () -> frail(4),
                x -> x.simulate(1, 300));
        t.answers("the store is dead by the move behind the first write, which counts", 1005,
                () -> Stores.gapAtThree(0), x -> x.simulate(seedOf(0), 300));
        t.answers("the last spare medium is taken by the first write", 4, () -> {
            GapLines x = Check.store(4, 1, 1, 5, 50);
            x.all(4);
            return x;
        }, x -> x.simulate(seedOf(0), 1));
        t.changesNothing("it changes nothing", Stores::rich, x -> x.simulate(1, 300));

        t.of("`m`: number of writes, 1 to 300");
        t.refusesBeyondRange("m", 1, 300, (x, m) -> x.simulate(1, m));

        t.of("Throws `IllegalArgumentException` if m is out of range");
        t.refuses("m is 0, and there is no store", Check.ARGUMENT, GapLines::new, x -> x.simulate(1, 0));
        t.refuses("m is 301, and there is no store", Check.ARGUMENT, GapLines::new, x -> x.simulate(1, 301));
        t.refuses("m is 301, and the store is dead", Check.ARGUMENT, Stores::dead, x -> x.simulate(1, 301));
    }

    /** Each place of 4 but the gap is worn so often, where a medium can be written 5 times. */
    private static GapLines frail(int times) {
        GapLines x = Check.store(4, 1, 0, 5, 50);
        x.all(times);
        return x;
    }

    /** The gap moves by 9 writes, and the line 0 has been written so often. */
    private static GapLines written(int times) {
        GapLines x = Check.store(4, 1, 0, 99, 9);
        x.hammer(0, times);
        return x;
    }

    public static void main(String[] args) {
        Sentences t = new Sentences("Promise 25");
        lines(t);
        answers(t);
        t.end();
    }
}
