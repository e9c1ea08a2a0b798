/** Promise 12; keys with a common divisor are tested by EdgesLinesAndPlaces, too. */
public final class Edges12Make {
    private static GapLines made(GapLines x, int n, int key, int spares) {
        x.make(n, key, spares);
        return x;
    }

    private static void whatever(Sentences t) {
        String first = " 0 0 0 0 0 0 0 settings ";
        String least = " lines 0@0 0@3 0@2 0@1 places 0/0 3/0 2/0 1/0 -1/0";
        t.of("Makes a new store, whatever there is; the settings stay.");
        t.test("there was no store", c -> c.same("the state", "about 4 0 4 0 0" + first + "100 8" + least,
                Check.seen(made(new GapLines(), 4, 3, 0))));
        t.test("there was a store whose media were worn", c -> c.same("the state",
                "about 4 0 4 1 0" + first + "5 2" + least, Check.seen(made(Stores.rich(), 4, 3, 1))));
        t.test("there was a dead store", c -> c.same("the state",
                "about 4 0 4 4 0" + first + "5 2" + least, Check.seen(made(Stores.dead(), 4, 3, 4))));
        t.test("there was one of 32 lines, whose gap had moved, and now one again", c -> {
            GapLines x = made(Stores.moved(32, 5, 100), 32, 5, 4);
            GapLines y = Check.store(32, 5, 4, 999, 1);
            c.same("the state", Check.seen(y), Check.seen(x));
        });
        t.answers("the least settings stay", 5, () -> made(Check.store(4, 1, 0, 5, 1), 8, 3, 1), x -> x.setting(0));
        t.answers("the greatest settings stay", 50, () -> made(Check.store(4, 1, 0, 999, 50), 8, 3, 1),
                x -> x.setting(1));
        t.answers("the slots stay", 7, () -> made(Stores.rich(), 4, 3, 0), x -> x.restore(1));
        t.answers("the text stays", 3, () -> made(Stores.rich(), 4, 3, 0), GapLines::clearText);
        t.answers("the states that are remembered stay", 8, () -> made(Stores.rich(), 4, 3, 0), GapLines::undo);

        t.of("Returns the place where the line 1 lies.");
        t.answers("the key is the least", 1, GapLines::new, x -> x.make(32, 1, 0));
        t.answers("the key is the greatest", 31, GapLines::new, x -> x.make(32, 31, 0));
        t.answers("the start and the gap before do not matter", 3, () -> Stores.moved(4, 1, 9), x -> x.make(4, 3, 0));
    }

    private static void ranges(Sentences t) {
        t.of("`n`: 4 to 32");
        t.refusesBeyondRange("n", 4, 32, (x, n) -> x.make(n, 1, 0));
        t.refuses("n is 3 with the greatest key of it", Check.ARGUMENT, x -> x.make(3, 2, 0));
        t.refuses("n is 0", Check.ARGUMENT, x -> x.make(0, 1, 0));

        t.of("`key`: 1 to n - 1, without a common divisor with n but 1");
        t.refusesBeyondRange("key of 4 lines", 1, 3, (x, key) -> x.make(4, key, 0));
        t.refusesBeyondRange("key of 31 lines", 1, 30, (x, key) -> x.make(31, key, 0));
        t.refusesBeyondRange("key of 32 lines", 1, 31, (x, key) -> x.make(32, key, 0));
        t.refuses("key is 0", Check.ARGUMENT, GapLines::new, x -> x.make(5, 0, 0));
        t.refuses("key is -1", Check.ARGUMENT, GapLines::new, x -> x.make(5, -1, 0));

        t.of("`spares`: 0 to 4");
        t.refusesBeyondRange("spares", 0, 4, (x, spares) -> x.make(4, 1, spares));

        t.of("Throws `IllegalArgumentException` if an argument is out of range,"
                + " or key and n have another common divisor");
        t.refuses("all arguments are wrong", Check.ARGUMENT, x -> x.make(33, 0, 5));
        t.refuses("key divides n", Check.ARGUMENT, x -> x.make(6, 2, 0));
        t.refuses("key divides n, and is half of it", Check.ARGUMENT, x -> x.make(6, 3, 0));
        t.refuses("key does not divide n, but a divisor of it does", Check.ARGUMENT, x -> x.make(6, 4, 0));
        t.refuses("the greatest key with a common divisor", Check.ARGUMENT, x -> x.make(32, 30, 0));
        t.refuses("the common divisor is 11", Check.ARGUMENT, x -> x.make(22, 11, 0));
        t.refuses("the common divisor is 5", Check.ARGUMENT, x -> x.make(25, 15, 0));
        t.answers("key is a prime beside n", 7, GapLines::new, x -> x.make(32, 7, 0));
    }

    public static void main(String[] args) {
        Sentences t = new Sentences("Promise 12");
        whatever(t);
        ranges(t);
        t.end();
    }
}
