/** "Terms", WEAR. */
public final class EdgesWear {
    /** 4 lines whose gap moves by 50 writes, with the line 2 written so often. */
    private static GapLines worn(int spares, int endurance, int writes) {
        GapLines x = Check.store(4, 1, spares, endurance, 50);
        for (int i = 0; i < writes; i++) {
            x.write(2, i);
        }
        return x;
    }

    private static void laid(Sentences t) {
        t.of("Each place has a medium with a wear, at first 0.");
        t.test("all 33 places have the wear 0 at first", c -> {
            GapLines x = Stores.calm(32);
            for (int p = 0; p <= 32; p++) {
                int place = p;
                c.answers("wear(" + p + ")", 0, () -> x.wear(place));
            }
        });
        t.test("a new store behind a worn one has the wear 0 at each place", c -> {
            GapLines x = Stores.moved(32, 1, 1056);
            x.make(32, 1, 4);
            for (int p = 0; p <= 32; p++) {
                int place = p;
                c.answers("wear(" + p + ")", 0, () -> x.wear(place));
            }
        });

        t.of("To lay something at a place makes the wear of its medium 1 greater.");
        t.answers("from 0 to 1", 1, () -> worn(0, 5, 1), x -> x.wear(2));
        t.answers("the place ahead of it is not worn", 0, () -> worn(0, 5, 1), x -> x.wear(1));
        t.answers("the place behind it is not worn", 0, () -> worn(0, 5, 1), x -> x.wear(3));
        t.answers("a value that is there already wears, too", 4, () -> worn(0, 5, 3), x -> {
            x.hammer(2, 1);
            return x.wear(2);
        });
    }

    private static void replaced(Sentences t) {
        t.of("If the wear is setting 0, or more, then, the medium is replaced by a spare one, if there is one left");
        t.answers("the wear is one less than setting 0, 5", 4, () -> worn(1, 5, 4), x -> x.wear(2));
        t.answers("the wear is setting 0, 5", 1, () -> worn(1, 5, 5), x -> x.wear(2));
        t.answers("the wear is one less than setting 0, 999", 998, () -> written(1, 999, 998), x -> x.wear(0));
        t.answers("the wear is setting 0, 999", 1, () -> written(1, 999, 999), x -> x.wear(0));
        t.answers("the wear is more than setting 0", 1, () -> {
            GapLines x = worn(1, 100, 20);
            x.set(0, 10);
            x.write(2, 1);
            return x;
        }, x -> x.wear(2));
        t.answers("the wear of the new medium is setting 0, too", 1, () -> worn(2, 5, 9), x -> x.wear(2));
        t.answers("the wear of the new medium is one less", 4, () -> worn(2, 5, 8), x -> x.wear(2));

        t.of("the place has a medium with the wear 1 then (what was laid is laid there once more),"
                + " and there is one spare medium less");
        t.answers("one write, and laid once more", 6, () -> worn(1, 5, 5), x -> x.about(11));
        t.answers("nothing is laid once more if no medium is replaced", 4, () -> worn(1, 5, 4), x -> x.about(11));
        t.answers("4 spare media: 3 are left", 3, () -> worn(4, 5, 5), x -> x.about(3));
        t.answers("the last spare medium: 0 are left", 0, () -> worn(1, 5, 5), x -> x.about(3));
        t.answers("the last spare medium: the store is not dead", 0, () -> worn(1, 5, 5), x -> x.about(9));
        t.answers("the last of 4 spare media: the store is not dead", 0, () -> worn(4, 5, 17), x -> x.about(9));
        t.answers("the last of 4 spare media: 4 are replaced", 4, () -> worn(4, 5, 17), x -> x.about(10));
        t.answers("the line has its value", 4, () -> worn(1, 5, 5), x -> x.read(2));
    }

    /** The line 0 of a store of 32 lines, which the gap does not reach by so few writes. */
    private static GapLines written(int spares, int endurance, int writes) {
        GapLines x = Check.store(32, 1, spares, endurance, 50);
        Stores.hammer(x, writes);
        return x;
    }

    private static void dead(Sentences t) {
        t.of("If there is no spare one left, the store is dead, and stays so: nothing can be written any more.");
        t.answers("no spare medium from the beginning, one write less", 0, () -> worn(0, 5, 4), x -> x.about(9));
        t.answers("no spare medium from the beginning", 1, () -> worn(0, 5, 5), x -> x.about(9));
        t.answers("behind the last spare medium, one write less", 0, () -> worn(1, 5, 8), x -> x.about(9));
        t.answers("behind the last spare medium", 1, () -> worn(1, 5, 9), x -> x.about(9));
        t.answers("behind the last of 4 spare media, one write less", 0, () -> worn(4, 5, 20), x -> x.about(9));
        t.answers("behind the last of 4 spare media", 1, () -> worn(4, 5, 21), x -> x.about(9));
        t.answers("the medium is not replaced", 5, () -> worn(1, 5, 9), x -> x.wear(2));
        t.answers("no more media are replaced", 1, () -> worn(1, 5, 9), x -> x.about(10));
        t.answers("nothing is laid once more", 10, () -> worn(1, 5, 9), x -> x.about(11));
        t.answers("the spare media that are left do not become less than 0", 0, () -> worn(1, 5, 9), x -> x.about(3));
        t.answers("it stays dead if a medium can be written more often", 1, () -> {
            GapLines x = worn(0, 5, 5);
            x.set(0, 999);
            return x;
        }, x -> x.about(9));
        t.refuses("write() of a line that is not worn", Check.STATE, () -> worn(0, 5, 5), x -> x.write(0, 1));
        t.answers("hammer() of a line that is not worn", 0, () -> worn(0, 5, 5), x -> x.hammer(0, 500));
        t.answers("all()", 0, () -> worn(0, 5, 5), x -> x.all(50));

        t.of("What was laid is there all the same, and a move of the gap by which the store is dead is made.");
        t.answers("the value of the last write", 4, () -> worn(0, 5, 5), x -> x.read(2));
        t.answers("the last write is counted", 5, () -> worn(0, 5, 5), x -> x.about(4));
        t.answers("the last write is counted as laid", 5, () -> worn(0, 5, 5), x -> x.about(11));
        t.test("a move from the place 3, by which the store is dead", c -> {
            GapLines x = Stores.gapAtThree(0);
            c.answers("about(9) before", 0, () -> x.about(9));
            x.write(0, 77);
            c.same("the store", "about 4 0 2 0 6 2 5 0 0 1 0 8 settings 5 1"
                    + " lines 77@0 0@1 0@3 0@4 places 0/2 1/0 -1/0 2/5 3/1", Check.seen(x));
        });
        t.test("a move from the place 0, by which the store is dead", c -> {
            GapLines x = Stores.gapAtZero(0);
            c.answers("about(9) before", 0, () -> x.about(9));
            x.write(1, 77);
            c.same("the store", "about 4 1 4 0 9 5 5 1 0 1 0 14 settings 5 1"
                    + " lines 0@1 77@2 0@3 0@0 places 3/5 0/1 1/2 2/2 -1/4", Check.seen(x));
        });
        t.test("a move from the place 3, for which the last spare medium is left", c -> {
            GapLines x = Stores.gapAtThree(1);
            x.write(0, 77);
            c.same("the store", "about 4 0 2 0 6 2 2 0 0 0 1 9 settings 5 1"
                    + " lines 77@0 0@1 0@3 0@4 places 0/2 1/0 -1/0 2/1 3/1", Check.seen(x));
        });
        t.test("a move from the place 0, for which the last spare medium is left", c -> {
            GapLines x = Stores.gapAtZero(1);
            x.write(1, 77);
            c.same("the store", "about 4 1 4 0 9 5 4 1 0 0 1 15 settings 5 1"
                    + " lines 0@1 77@2 0@3 0@0 places 3/1 0/1 1/2 2/2 -1/4", Check.seen(x));
        });
    }

    public static void main(String[] args) {
        Sentences t = new Sentences("WEAR");
        laid(t);
        replaced(t);
        dead(t);
        t.end();
    }
}
