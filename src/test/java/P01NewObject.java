public final class P01NewObject {
    public static void main(String[] args) {
        Check c = new Check();
        GapLines x = new GapLines();
        c.same("a new object", "about 0 0 0 0 0 0 0 0 0 0 0 0 settings 100 8 lines places", Check.seen(x));
        c.answers("NONE", -1, () -> GapLines.NONE);
        c.answers("errorPosition()", 0, x::errorPosition);
        c.fails("load()", Check.STATE, x::load);
        c.fails("undo()", Check.STATE, x::undo);
        c.fails("read(0)", Check.INDEX, () -> x.read(0));
        c.fails("place(0)", Check.INDEX, () -> x.place(0));
        c.fails("line(0)", Check.INDEX, () -> x.line(0));
        c.fails("wear(0)", Check.INDEX, () -> x.wear(0));
        c.fails("write(0, 0)", Check.INDEX, () -> x.write(0, 0));
        c.fails("all(1)", Check.STATE, () -> x.all(1));
        c.fails("lifeOfAll()", Check.STATE, x::lifeOfAll);
        c.fails("restore(0)", Check.STATE, () -> x.restore(0));
        c.fails("restore(1)", Check.STATE, () -> x.restore(1));
        c.answers("clearText()", 0, x::clearText);
        GapLines other = Check.store(5, 2, 0);
        c.answers("about(0) of another object", 5, () -> other.about(0));
        c.answers("about(0) behind it", 0, () -> x.about(0));
        c.end();
    }
}
