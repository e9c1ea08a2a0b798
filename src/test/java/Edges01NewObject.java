/** Promise 1. */
public final class Edges01NewObject {
    public static void main(String[] args) {
        Sentences t = new Sentences("Promise 1");
        t.of("Creates an object without a store.");
        for (int what = 0; what <= 11; what++) {
            int number = what;
            t.answers("about(" + what + ")", 0, GapLines::new, x -> x.about(number));
        }
        t.refuses("there is no line 0", Check.INDEX, GapLines::new, x -> x.place(0));
        t.refuses("there is no place 0", Check.INDEX, GapLines::new, x -> x.line(0));
        t.answers("setting 0", 100, GapLines::new, x -> x.setting(0));
        t.answers("setting 1", 8, GapLines::new, x -> x.setting(1));
        t.answers("the text is empty", 0, GapLines::new, GapLines::clearText);
        t.refuses("no state is remembered", Check.STATE, GapLines::new, GapLines::undo);
        t.refuses("the slot 0 is empty", Check.STATE, GapLines::new, x -> x.restore(0));
        t.refuses("the slot 1 is empty", Check.STATE, GapLines::new, x -> x.restore(1));
        t.test("another object keeps what it has", c -> {
            GapLines other = Stores.rich();
            GapLines x = new GapLines();
            x.make(32, 1, 4);
            x.append('L');
            x.save(0);
            c.same("the other object", Stores.whole(Stores.rich()), Stores.whole(other));
        });

        t.of("`NONE = -1`: There is no such result.");
        t.answers("NONE", -1, GapLines::new, x -> GapLines.NONE);
        t.end();
    }
}
