/** Promise 26. */
public final class Edges26Save {
    public static void main(String[] args) {
        Sentences t = new Sentences("Promise 26");
        t.of("Stores the present state in a save slot.");
        t.test("in the slot 0: the slot 1 keeps what it has", c -> {
            GapLines x = Stores.rich();
            x.write(0, 999);
            x.save(0);
            c.answers("restore(1)", 7, () -> x.restore(1));
            c.same("the state", Check.EXAMPLE, Check.seen(x));
            c.answers("restore(0)", 8, () -> x.restore(0));
            c.answers("read(0)", 999, () -> x.read(0));
        });
        t.refuses("in the slot 1: the slot 0 stays empty", Check.STATE, Stores::rich, x -> x.restore(0));
        t.answers("in a slot that is not empty: what was in it is gone", 8, Stores::rich, x -> {
            x.write(0, 999);
            x.save(1);
            x.undo();
            return x.restore(1);
        });
        t.test("a dead store, with its settings", c -> {
            GapLines x = Stores.dead();
            x.make(32, 1, 4);
            x.set(0, 999);
            x.set(1, 50);
            x.restore(1);
            c.same("the state", Check.DEAD, Check.seen(x));
        });
        t.test("that there is no store", c -> {
            GapLines x = new GapLines();
            x.save(1);
            x.make(4, 1, 0);
            c.answers("restore(1)", 0, () -> x.restore(1));
            c.same("the state", "about 0 0 0 0 0 0 0 0 0 0 0 0 settings 100 8 lines places", Check.seen(x));
        });
        t.test("the last line and the last place of 32 lines", c -> {
            GapLines x = Stores.moved(32, 1, 1);
            x.write(31, 999);
            String saved = Check.seen(x);
            x.save(0);
            x.all(1);
            x.make(4, 1, 0);
            x.restore(0);
            c.same("the state", saved, Check.seen(x));
        });
        t.answers("what is done behind it does not come into the slot", 7, Stores::rich, x -> {
            x.save(0);
            x.hammer(0, 500);
            return x.restore(0);
        });
        t.answers("it forgets no remembered state", 7, Stores::rich, x -> {
            x.save(0);
            return x.undo();
        });

        t.of("Returns the writes so far, 0 without a store.");
        t.answers("no store yet", 0, GapLines::new, x -> x.save(0));
        t.answers("no write yet", 0, Stores::calm, x -> x.save(1));
        t.answers("one write", 1, Stores::calm, x -> {
            x.write(0, 1);
            return x.save(1);
        });
        t.answers("a dead store", 12, Stores::dead, x -> x.save(0));
        t.answers("the store is undone", 0, () -> {
            GapLines x = Stores.calm();
            x.write(0, 1);
            x.undo();
            x.undo();
            return x;
        }, x -> x.save(0));

        t.of("`slot`: 0 or 1");
        t.refuses("-1 is one too small", Check.INDEX, x -> x.save(-1));
        t.allows("0 is the least that is allowed", x -> x.save(0));
        t.allows("1 is the greatest that is allowed", x -> x.save(1));
        t.refuses("2 is one too large", Check.INDEX, x -> x.save(2));

        t.of("Throws `IndexOutOfBoundsException` if there is no such save slot");
        t.refuses("the least int", Check.INDEX, x -> x.save(Integer.MIN_VALUE));
        t.refuses("the greatest int", Check.INDEX, x -> x.save(Integer.MAX_VALUE));
        t.refuses("the slot 2 without a store", Check.INDEX, GapLines::new, x -> x.save(2));
        t.end();
    }
}
