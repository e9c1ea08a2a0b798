/** "What it is": the 512 calls for which an object is used. */
public final class EdgesCallLimit {
    private static final int LAST = 512;

    /** An object after 511 calls, 509 of which have written the line 0, with the value 3 at first and 511 at last. */
    private static GapLines written() {
        GapLines x = new GapLines();
        x.set(0, 999);
        x.make(4, 1, 0);
        for (int call = 3; call < LAST; call++) {
            x.write(0, call);
        }
        return x;
    }

    private static GapLines after(GapLines x, int calls, Sentences.On on) {
        for (int call = calls + 1; call < LAST; call++) {
            on.call(x);
        }
        return x;
    }

    public static void main(String[] args) {
        Sentences t = new Sentences("What it is");
        t.of("An object is used for at most 512 calls after it has been made");
        t.answers("the call 512 is a write", 511, EdgesCallLimit::written, x -> x.write(0, 7));
        t.answers("the call 512 is a question", 509, EdgesCallLimit::written, x -> x.about(4));
        t.answers("the call 512 is undo", 13, EdgesCallLimit::written, GapLines::undo);
        t.answers("the call 512 is save", 509, EdgesCallLimit::written, x -> x.save(1));
        t.test("the call 512 throws", c -> {
            GapLines x = after(new GapLines(), 0, GapLines::clearText);
            c.fails("undo()", Check.STATE, x::undo);
        });
        t.answers("the call 512 is the load of a full text", 0,
                () -> after(Check.text("L32314" + "a9".repeat(57)), 121, GapLines::load), GapLines::load);
        // Each write of the line 0 is to move the gap: so it comes away from its place soonest.
        t.answers("the call 512 is the one that tries most", 1,
                () -> after(Stores.calm(32), 3, x -> x.bestEvery(0, 500)), x -> x.bestEvery(0, 500));
        t.end();
    }
}
