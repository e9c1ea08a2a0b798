/** Promise 7. */
public final class Edges07Read {
    /** Each of the lines has a value of its own. */
    private static GapLines filled(int n) {
        GapLines x = Check.store(n, n - 1, 0, 999, 3);
        for (int l = 0; l < n; l++) {
            x.write(l, 999 - l);
        }
        return x;
    }

    public static void main(String[] args) {
        Sentences t = new Sentences("Promise 7");
        t.of("Returns its value.");
        t.answers("it was never written", 0, Stores::calm, x -> x.read(3));
        t.answers("the line 0 has the greatest value", 999, () -> filled(4), x -> x.read(0));
        t.answers("the last of 4 lines", 996, () -> filled(4), x -> x.read(3));
        t.answers("the last of 32 lines", 968, () -> filled(32), x -> x.read(31));
        t.answers("the least value laid over the greatest", 0, () -> filled(4), x -> {
            x.write(0, 0);
            return x.read(0);
        });
        t.answers("the value by which the store is dead", 11, Stores::dead, x -> x.read(3));
        t.changesNothing("it changes nothing", Stores::rich, x -> x.read(3));

        t.of("Throws `IndexOutOfBoundsException` if there is no such line");
        t.refusesLinesBeyond(GapLines::read);
        t.end();
    }
}
