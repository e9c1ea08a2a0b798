import java.math.BigInteger;

public final class P25Simulate {
    private static final Check C = new Check();
    private static final BigInteger FACTOR = new BigInteger("6364136223846793005");
    private static final BigInteger ADDED = new BigInteger("1442695040888963407");
    private static final BigInteger ROUND = BigInteger.ONE.shiftLeft(64);

    private static GapLines made(int n, int key, int spares, int endurance, int every) {
        GapLines x = Check.store(n, key, spares, endurance, every);
        x.all(1);
        return x;
    }

    /** Does the writes by the document's words, x being a number from 0 to 2 to the 64 less 1. */
    private static int done(GapLines y, long seed, int m) {
        int before = y.about(5);
        int n = y.about(0);
        BigInteger x = BigInteger.valueOf(seed).mod(ROUND);
        for (int i = 0; i < m; i++) {
            x = x.multiply(FACTOR).add(ADDED).mod(ROUND);
            int r = x.shiftRight(33).intValueExact();
            int line = r % 4 == 0 ? 0 : (r / 4) % n;
            if (y.about(9) == 0) {
                y.write(line, (r / 128) % 1000);
            }
        }
        return 1000 * (y.about(5) - before) + y.about(6);
    }

    public static void main(String[] args) {
        long[] seeds = {0, 1, -1, 42, 123456789012345L, Long.MAX_VALUE, Long.MIN_VALUE, 6364136223846793005L};
        int[][] stores = {{4, 1, 0, 5, 1}, {4, 3, 4, 20, 2}, {7, 3, 2, 100, 8}, {32, 5, 1, 999, 3}, {31, 30, 0, 9, 50}};
        for (long seed : seeds) {
            for (int[] s : stores) {
                for (int m : new int[] {1, 2, 7, 60, 300}) {
                    GapLines x = made(s[0], s[1], s[2], s[3], s[4]);
                    String before = Check.seen(x);
                    int due = done(made(s[0], s[1], s[2], s[3], s[4]), seed, m);
                    C.answers("simulate(" + seed + ", " + m + ")", due, () -> x.simulate(seed, m));
                    C.same("the store behind it", before, Check.seen(x));
                }
            }
        }
        C.answers("simulate(1, 300) of a dead store", 5, () -> Check.exampleDead().simulate(1, 300));
        C.answers("simulate(1, 1) without a store", 0, () -> new GapLines().simulate(1, 1));
        C.answers("simulate(1, 300) without a store", 0, () -> new GapLines().simulate(1, 300));
        GapLines x = Check.example();
        for (int m : new int[] {0, -1, 301, Integer.MAX_VALUE, Integer.MIN_VALUE}) {
            C.fails("simulate(1, " + m + ")", Check.ARGUMENT, () -> x.simulate(1, m));
            C.fails("simulate(1, " + m + ") without a store", Check.ARGUMENT, () -> new GapLines().simulate(1, m));
        }
        x.simulate(5, 300);
        C.same("the store", Check.EXAMPLE, Check.seen(x));
        C.answers("undo(): simulate is no action", 7, x::undo);
        C.end();
    }
}
