/** Promise 27. */
public final class Edges27Restore {
    private static GapLines loaded(String text) {
        GapLines x = Stores.rich();
        x.save(0);
        Check.type(x, text);
        Check.outcome(x::load);
        return x;
    }

    private static GapLines bothSaved() {
        GapLines x = Stores.rich();
        x.save(0);
        return x;
    }

    public static void main(String[] args) {
        Sentences t = new Sentences("Promise 27");
        t.of("Replaces the state by the one in a save slot, and forgets all remembered states."
                + " The save slot keeps it.");
        t.test("behind a store with other lines and settings", c -> {
            GapLines x = Stores.rich();
            x.make(32, 1, 4);
            x.set(0, 999);
            x.set(1, 50);
            x.all(50);
            x.restore(1);
            c.same("the state", Check.EXAMPLE, Check.seen(x));
        });
        t.test("behind a dead store: it lives again", c -> {
            GapLines x = Stores.rich();
            x.hammer(0, 500);
            c.answers("about(9)", 1, () -> x.about(9));
            x.restore(1);
            c.same("the state", Check.EXAMPLE, Check.seen(x));
        });
        t.refuses("14 states were remembered", Check.STATE, () -> {
            GapLines x = Stores.remembering(14);
            x.save(0);
            x.restore(0);
            return x;
        }, GapLines::undo);
        t.answers("the first action behind it is remembered alone", 0, Stores::rich, x -> {
            x.restore(1);
            x.write(0, 1);
            return x.undo();
        });
        t.answers("the slot keeps it, whatever is done behind it", 7, Stores::rich, x -> {
            x.restore(1);
            x.hammer(0, 500);
            return x.restore(1);
        });
        t.test("the slot keeps its values and wears, whatever is done behind it", c -> {
            GapLines x = Stores.rich();
            x.restore(1);
            x.write(0, 999);
            x.all(1);
            x.restore(1);
            c.same("the state", Check.EXAMPLE, Check.seen(x));
        });
        t.answers("the text stays", 3, Stores::rich, x -> {
            x.restore(1);
            return x.clearText();
        });

        t.of("Returns the writes so far then, 0 without a store.");
        t.answers("no store was saved", 0, () -> {
            GapLines x = new GapLines();
            x.save(0);
            x.make(4, 1, 0);
            x.write(0, 1);
            return x;
        }, x -> x.restore(0));
        t.answers("no write was saved", 0, () -> {
            GapLines x = Stores.calm();
            x.save(0);
            x.write(0, 1);
            return x;
        }, x -> x.restore(0));
        t.answers("7 writes were saved, and more were done", 7, Stores::rich, x -> {
            x.hammer(0, 2);
            return x.restore(1);
        });
        t.answers("a dead store was saved", 12, Stores::dead, x -> x.restore(1));

        t.of("`slot`: 0 or 1");
        t.refuses("-1 is one too small", Check.INDEX, Edges27Restore::bothSaved, x -> x.restore(-1));
        t.allows("0 is the least that is allowed", Edges27Restore::bothSaved, x -> x.restore(0));
        t.allows("1 is the greatest that is allowed", Edges27Restore::bothSaved, x -> x.restore(1));
        t.refuses("2 is one too large", Check.INDEX, Edges27Restore::bothSaved, x -> x.restore(2));

        t.of("Throws `IndexOutOfBoundsException` if there is no such save slot");
        t.refuses("the least int", Check.INDEX, x -> x.restore(Integer.MIN_VALUE));
        t.refuses("the greatest int", Check.INDEX, x -> x.restore(Integer.MAX_VALUE));
        t.refuses("the slot 2, and nothing has been saved", Check.INDEX, GapLines::new, x -> x.restore(2));
        t.refuses("the slot -1, and nothing has been saved", Check.INDEX, GapLines::new, x -> x.restore(-1));

        t.of("Throws `IllegalStateException` if nothing has been saved in it since the last load");
        t.refuses("nothing has been saved, the slot 0", Check.STATE, GapLines::new, x -> x.restore(0));
        t.refuses("nothing has been saved, the slot 1", Check.STATE, GapLines::new, x -> x.restore(1));
        t.refuses("the other slot has been saved", Check.STATE, x -> x.restore(0));
        t.refuses("it has been saved before the load, the slot 0", Check.STATE, () -> loaded("L04010"),
                x -> x.restore(0));
        t.refuses("it has been saved before the load, the slot 1", Check.STATE, () -> loaded("L04010"),
                x -> x.restore(1));
        t.refuses("it has been saved before a load that makes no store", Check.STATE, () -> loaded("L04020"),
                x -> x.restore(1));
        t.answers("it has been saved before a load that throws", 7, () -> loaded("L0401"), x -> x.restore(1));
        t.answers("it has been saved behind the load", 4, () -> {
            GapLines x = loaded("L04010a1");
            x.save(1);
            return x;
        }, x -> x.restore(1));
        t.refuses("the other slot has been saved behind the load", Check.STATE, () -> {
            GapLines x = loaded("L04010a1");
            x.save(1);
            return x;
        }, x -> x.restore(0));
        t.end();
    }
}
