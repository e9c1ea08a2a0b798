/** "Terms", LINES AND PLACES. */
public final class EdgesLinesAndPlaces {
    private static void howMany(Sentences t) {
        t.of("A store has n lines, 4 to 32, numbered from 0, and n + 1 places, numbered from 0.");
        t.refuses("3 lines are too few", Check.ARGUMENT, x -> x.make(3, 1, 0));
        t.refuses("33 lines are too many", Check.ARGUMENT, x -> x.make(33, 1, 0));
        t.test("the least store has the lines 0 to 3 and the places 0 to 4", c -> numbered(c, Stores.calm(4), 4));
        t.test("the greatest store has the lines 0 to 31 and the places 0 to 32",
                c -> numbered(c, Stores.calm(32), 32));

        t.of("Each line has a value, 0 to 999, at first 0.");
        t.test("all 32 lines have the value 0 at first", c -> {
            GapLines x = Stores.calm(32);
            for (int l = 0; l < 32; l++) {
                int line = l;
                c.answers("read(" + l + ")", 0, () -> x.read(line));
            }
        });
        t.test("a new store behind a written one has the value 0 in each line", c -> {
            GapLines x = Stores.calm(32);
            for (int l = 0; l < 32; l++) {
                x.write(l, 999);
            }
            x.make(32, 1, 0);
            for (int l = 0; l < 32; l++) {
                int line = l;
                c.answers("read(" + l + ")", 0, () -> x.read(line));
            }
        });
        t.test("a line can have the value 999, and 0 behind it", c -> {
            GapLines x = Stores.calm();
            x.write(3, 999);
            c.answers("read(3)", 999, () -> x.read(3));
            x.write(3, 0);
            c.answers("read(3)", 0, () -> x.read(3));
        });
        t.refuses("no line can have the value -1", Check.ARGUMENT, x -> x.write(3, -1));
        t.refuses("no line can have the value 1000", Check.ARGUMENT, x -> x.write(3, 1000));
    }

    private static void numbered(Check c, GapLines x, int n) {
        c.answers("about(0)", n, () -> x.about(0));
        for (int l = 0; l < n; l++) {
            int line = l;
            c.answers("place(" + l + ")", l, () -> x.place(line));
            c.answers("line(" + l + ")", l, () -> x.line(line));
        }
        c.answers("line(n)", -1, () -> x.line(n));
        c.fails("place(-1)", Check.INDEX, () -> x.place(-1));
        c.fails("place(n)", Check.INDEX, () -> x.place(n));
        c.fails("line(-1)", Check.INDEX, () -> x.line(-1));
        c.fails("line(n + 1)", Check.INDEX, () -> x.line(n + 1));
    }

    private static void startAndGap(Sentences t) {
        t.of("There is a start, 0 to n - 1, at first 0, and a gap, which is one of the places, at first the place n.");
        t.answers("the start is 0 at first", 0, () -> Stores.calm(4), x -> x.about(1));
        t.answers("the gap is the place 4 of 4 lines at first", 4, () -> Stores.calm(4), x -> x.about(2));
        t.answers("the gap is the place 32 of 32 lines at first", 32, () -> Stores.calm(32), x -> x.about(2));
        t.answers("a new store behind one has the start 0", 0, () -> again(Stores.moved(4, 1, 7)), x -> x.about(1));
        t.answers("a new store behind one has its gap at n", 6, () -> again(Stores.moved(4, 1, 7)), x -> x.about(2));
        t.answers("the gap is the place 0 behind n moves", 0, () -> Stores.moved(4, 1, 4), x -> x.about(2));
        t.answers("the start is 0 until the gap goes from the place 0", 0, () -> Stores.moved(4, 1, 4),
                x -> x.about(1));
        t.answers("the start is 3, the greatest of 4 lines", 3, () -> Stores.moved(4, 1, 19), x -> x.about(1));
        t.answers("the start of 4 lines is 0 again", 0, () -> Stores.moved(4, 1, 20), x -> x.about(1));
        t.answers("the start is 31, the greatest of 32 lines", 31, () -> Stores.moved(32, 31, 1055), x -> x.about(1));
        t.answers("the start of 32 lines is 0 again", 0, () -> Stores.moved(32, 31, 1056), x -> x.about(1));
    }

    private static GapLines again(GapLines x) {
        x.make(6, 5, 0);
        return x;
    }

    private static void keys(Sentences t) {
        t.of("The store has a key, 1 to n - 1, which has no common divisor with n but 1.");
        t.refuses("the key 0", Check.ARGUMENT, x -> x.make(9, 0, 0));
        t.answers("the key 1", 1, GapLines::new, x -> x.make(9, 1, 0));
        t.answers("the key n - 1", 8, GapLines::new, x -> x.make(9, 8, 0));
        t.refuses("the key n", Check.ARGUMENT, x -> x.make(9, 9, 0));
        t.refuses("the key n + 1, that has no common divisor with n", Check.ARGUMENT, x -> x.make(9, 10, 0));
        t.refuses("the common divisor 2 of 4 and 2", Check.ARGUMENT, x -> x.make(4, 2, 0));
        t.refuses("the common divisor 2 of 32 and 30", Check.ARGUMENT, x -> x.make(32, 30, 0));
        t.refuses("the common divisor 3 of 9 and 6", Check.ARGUMENT, x -> x.make(9, 6, 0));
        t.refuses("the common divisor 13 of 26 and 13", Check.ARGUMENT, x -> x.make(26, 13, 0));
        t.answers("31 and 30, one less", 30, GapLines::new, x -> x.make(31, 30, 0));
        t.answers("9 and 4: both have divisors, and none in common", 4, GapLines::new, x -> x.make(9, 4, 0));
    }

    private static void where(Sentences t) {
        t.of("t is the rest of key * l + start by n");
        t.answers("it is n: the rest is 0", 0, () -> Stores.moved(4, 1, 5), x -> x.place(3));
        t.answers("it is n - 1: that is the rest", 3, () -> Stores.moved(4, 1, 5), x -> x.place(2));
        t.answers("all are the greatest: 31 * 31 + 31 by 32 has the rest 0", 0, () -> Stores.moved(32, 31, 1023),
                x -> x.place(31));
        t.answers("all are the greatest: the line 30 has the rest 1", 1, () -> Stores.moved(32, 31, 1023),
                x -> x.place(30));

        t.of("it is the place t if t is less than the gap, otherwise the place t + 1");
        t.answers("the gap is the place n, and t is n - 1", 3, () -> Stores.moved(4, 1, 0), x -> x.place(3));
        t.answers("t is one less than the gap", 1, () -> Stores.moved(4, 1, 2), x -> x.place(1));
        t.answers("t is the gap", 3, () -> Stores.moved(4, 1, 2), x -> x.place(2));
        t.answers("the gap is the place 1, and t is 0", 0, () -> Stores.moved(4, 1, 3), x -> x.place(0));
        t.answers("the gap is the place 0, and t is 0", 1, () -> Stores.moved(4, 1, 4), x -> x.place(0));
        t.answers("the gap is the place 0, and t is n - 1", 4, () -> Stores.moved(4, 1, 4), x -> x.place(3));

        t.of("No line lies in the gap.");
        t.answers("the gap is the place n", -1, () -> Stores.moved(4, 3, 0), x -> x.line(4));
        t.answers("the gap is the place n - 1", -1, () -> Stores.moved(4, 3, 1), x -> x.line(3));
        t.answers("the gap is the place 0", -1, () -> Stores.moved(4, 3, 4), x -> x.line(0));
        t.answers("the gap is the place n again", -1, () -> Stores.moved(4, 3, 5), x -> x.line(4));

        t.of("At first there is no store.");
        t.answers("there are 0 lines", 0, GapLines::new, x -> x.about(0));
        t.refuses("there is no line 0", Check.INDEX, GapLines::new, x -> x.read(0));
        t.refuses("there is no place 0", Check.INDEX, GapLines::new, x -> x.wear(0));
    }

    public static void main(String[] args) {
        Sentences t = new Sentences("LINES AND PLACES");
        howMany(t);
        startAndGap(t);
        keys(t);
        where(t);
        t.end();
    }
}
