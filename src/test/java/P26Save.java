public final class P26Save {
    public static void main(String[] args) {
        Check c = new Check();
        GapLines none = new GapLines();
        c.answers("save(0) without a store", 0, () -> none.save(0));
        none.make(5, 1, 0);
        c.answers("restore(0)", 0, () -> none.restore(0));
        c.answers("about(0): there was no store", 0, () -> none.about(0));

        GapLines x = Check.example();
        c.answers("save(0)", 7, () -> x.save(0));
        c.fails("save(-1)", Check.INDEX, () -> x.save(-1));
        c.fails("save(2)", Check.INDEX, () -> x.save(2));
        c.fails("save(MAX)", Check.INDEX, () -> x.save(Integer.MAX_VALUE));
        c.fails("save(MIN)", Check.INDEX, () -> x.save(Integer.MIN_VALUE));
        c.same("the store", Check.EXAMPLE, Check.seen(x));
        c.answers("undo(): save is no action and forgets none", 7, x::undo);
        x.hammer(0, 3);
        x.hammer(0, 3);
        c.answers("save(1)", 10, () -> x.save(1));
        c.answers("restore(0)", 7, () -> x.restore(0));
        c.same("the store of the slot 0", Check.EXAMPLE, Check.seen(x));
        c.answers("restore(1)", 10, () -> x.restore(1));
        c.same("the store of the slot 1", Check.BEHIND_ROUND, Check.seen(x));
        x.write(3, 10);
        x.write(3, 11);
        c.answers("save(0) once more", 12, () -> x.save(0));
        x.make(7, 2, 1);
        c.answers("restore(0)", 12, () -> x.restore(0));
        c.same("the store that was saved last", Check.DEAD, Check.seen(x));
        c.end();
    }
}
