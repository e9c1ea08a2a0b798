/** Promise 17; what is an action and how many are remembered is tested by EdgesActions. */
public final class Edges17Undo {
    public static void main(String[] args) {
        Sentences t = new Sentences("Promise 17");
        t.of("Takes back the last action that is remembered.");
        t.answers("there was one", 100, () -> Stores.remembering(1), x -> {
            x.undo();
            return x.setting(0);
        });
        t.answers("there were 14", 113, () -> Stores.remembering(14), x -> {
            x.undo();
            return x.setting(0);
        });
        t.answers("there were 15", 114, () -> Stores.remembering(15), x -> {
            x.undo();
            return x.setting(0);
        });
        t.test("a write that moved the gap from the place 0", c -> {
            GapLines x = Stores.moved(4, 1, 4);
            GapLines y = Stores.moved(4, 1, 4);
            x.write(3, 999);
            x.undo();
            c.same("everything", Stores.whole(y), Stores.whole(x));
        });
        t.test("a write that took the last spare medium", c -> {
            GapLines x = Stores.gapAtZero(1);
            x.write(0, 999);
            x.undo();
            c.same("everything", Stores.whole(Stores.gapAtZero(1)), Stores.whole(x));
        });
        t.test("a move by which the store was dead", c -> {
            GapLines x = Stores.gapAtZero(0);
            x.write(1, 999);
            c.answers("about(9)", 1, () -> x.about(9));
            x.undo();
            c.same("everything", Stores.whole(Stores.gapAtZero(0)), Stores.whole(x));
        });

        t.of("Returns how many states are still remembered.");
        t.answers("there was one: 0", 0, () -> Stores.remembering(1), GapLines::undo);
        t.answers("there were 2: 1", 1, () -> Stores.remembering(2), GapLines::undo);
        t.answers("there were 13: 12", 12, () -> Stores.remembering(13), GapLines::undo);
        t.answers("there were 14: 13", 13, () -> Stores.remembering(14), GapLines::undo);
        t.answers("there were 15: 13", 13, () -> Stores.remembering(15), GapLines::undo);
        t.test("there were 20: 13 to 0", c -> {
            GapLines x = Stores.remembering(20);
            for (int left = 13; left >= 0; left--) {
                c.answers("undo()", left, x::undo);
            }
        });
        t.answers("one more behind an undo", 13, () -> Stores.remembering(14), x -> {
            x.undo();
            x.set(0, 5);
            return x.undo();
        });

        t.of("Throws `IllegalStateException` if none is remembered");
        t.refuses("no action yet", Check.STATE, GapLines::new, GapLines::undo);
        t.refuses("the only one is taken back", Check.STATE, () -> undone(1, 1), GapLines::undo);
        t.refuses("all 14 are taken back", Check.STATE, () -> undone(14, 14), GapLines::undo);
        t.refuses("14 of 15 are taken back", Check.STATE, () -> undone(15, 14), GapLines::undo);
        t.refuses("it throws twice", Check.STATE, () -> {
            GapLines x = undone(1, 1);
            Check.outcome(x::undo);
            return x;
        }, GapLines::undo);
        t.refuses("the only call was no action, as it threw", Check.STATE, () -> {
            GapLines x = new GapLines();
            Check.outcome(() -> x.set(0, 4));
            return x;
        }, GapLines::undo);
        t.refuses("a story was loaded", Check.STATE, () -> Check.loaded("L04010a1"), GapLines::undo);
        t.refuses("a slot was restored", Check.STATE, () -> {
            GapLines x = Stores.rich();
            x.restore(1);
            return x;
        }, GapLines::undo);
        t.end();
    }

    private static GapLines undone(int actions, int times) {
        GapLines x = Stores.remembering(actions);
        for (int i = 0; i < times; i++) {
            x.undo();
        }
        return x;
    }
}
