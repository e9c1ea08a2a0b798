public final class P27Restore {
    public static void main(String[] args) {
        Check c = new Check();
        GapLines x = Check.example();
        c.fails("restore(0) of nothing", Check.STATE, () -> x.restore(0));
        c.fails("restore(1) of nothing", Check.STATE, () -> x.restore(1));
        for (int slot : new int[] {-1, 2, Integer.MAX_VALUE, Integer.MIN_VALUE}) {
            c.fails("restore(" + slot + ")", Check.INDEX, () -> x.restore(slot));
        }
        c.same("the store", Check.EXAMPLE, Check.seen(x));
        c.answers("undo(): the failed calls forget none", 7, x::undo);
        x.hammer(0, 3);
        x.save(1);
        c.fails("restore(0)", Check.STATE, () -> x.restore(0));
        x.make(9, 2, 3);
        x.set(0, 77);
        x.set(1, 7);
        Check.type(x, "L04");
        c.answers("restore(1)", 7, () -> x.restore(1));
        c.same("the store with its settings", Check.EXAMPLE, Check.seen(x));
        c.fails("undo() behind restore(1)", Check.STATE, x::undo);
        c.answers("clearText(): the text stays", 3, x::clearText);
        // The slot keeps its state, whatever is done with the one that is there.
        x.hammer(0, 3);
        c.same("behind a round", Check.BEHIND_ROUND, Check.seen(x));
        c.answers("undo()", 0, x::undo);
        x.hammer(0, 3);
        x.write(3, 10);
        x.write(3, 11);
        c.same("dead", Check.DEAD, Check.seen(x));
        c.answers("restore(1) again", 7, () -> x.restore(1));
        c.same("the store again", Check.EXAMPLE, Check.seen(x));
        // load empties the slots, also if it makes no store; a load that fails does not.
        Check.type(x, "L0");
        c.fails("load()", Check.STATE, x::load);
        c.answers("restore(1) behind a load that failed", 7, () -> x.restore(1));
        Check.type(x, "L08011");
        x.load();
        c.fails("restore(1) behind load()", Check.STATE, () -> x.restore(1));
        c.answers("about(0)", 8, () -> x.about(0));
        x.save(1);
        x.make(5, 1, 0);
        c.answers("restore(1)", 0, () -> x.restore(1));
        c.answers("about(0)", 8, () -> x.about(0));
        c.end();
    }
}
