public final class P17Undo {
    private static final Check C = new Check();

    private static void fourteenStates() {
        GapLines x = new GapLines();
        for (int v = 1; v <= 13; v++) {
            x.set(0, 100 + v);
        }
        C.answers("undo() behind 13 actions", 12, x::undo);
        x.set(0, 200);
        x.set(0, 201);
        C.answers("undo() behind 14", 13, x::undo);
        C.answers("setting(0)", 200, () -> x.setting(0));
        for (int v = 1; v <= 30; v++) {
            x.set(0, 300 + v);
        }
        for (int left = 13; left >= 0; left--) {
            C.answers("undo()", left, x::undo);
            int due = 316 + left;
            C.answers("setting(0)", due, () -> x.setting(0));
        }
        C.fails("undo() with none remembered", Check.STATE, x::undo);
        C.answers("setting(0) behind it", 316, () -> x.setting(0));
        x.set(0, 5);
        C.answers("undo() of one more", 0, x::undo);
        C.answers("setting(0)", 316, () -> x.setting(0));
    }

    private static void everything() {
        GapLines x = Check.example();
        x.hammer(0, 3);
        x.write(3, 10);
        x.write(3, 11);
        C.same("the dead store", Check.DEAD, Check.seen(x));
        x.make(32, 3, 4);
        x.all(3);
        x.set(1, 3);
        x.set(0, 50);
        x.undo();
        x.undo();
        x.undo();
        C.answers("undo() of make", 10, x::undo);
        C.same("the dead store again", Check.DEAD, Check.seen(x));
        x.undo();
        x.undo();
        C.same("behind a round", Check.BEHIND_ROUND, Check.seen(x));
        C.answers("undo()", 7, x::undo);
        C.same("the example", Check.EXAMPLE, Check.seen(x));
        x.hammer(0, 3);
        C.same("behind a round again", Check.BEHIND_ROUND, Check.seen(x));
    }

    /** The largest store has its last lines and places remembered, too. */
    private static void allPlaces() {
        GapLines x = Check.store(32, 3, 4, 999, 5);
        for (int l = 0; l < 32; l++) {
            x.write(l, 500 + l);
        }
        x.hammer(7, 170);
        String before = Check.seen(x);
        x.save(0);
        x.all(9);
        x.write(31, 1);
        x.write(0, 1);
        x.undo();
        x.undo();
        x.undo();
        C.same("the largest store", before, Check.seen(x));
        x.make(4, 1, 0);
        x.undo();
        C.same("the largest store behind a small one", before, Check.seen(x));
        x.make(4, 1, 0);
        x.restore(0);
        C.same("the largest store of a slot", before, Check.seen(x));
    }

    private static void notTheTextNorTheSlots() {
        GapLines x = Check.example();
        Check.type(x, "L04");
        x.set(0, 7);
        x.save(0);
        x.append('0');
        C.answers("undo()", 8, x::undo);
        C.answers("clearText(): the text stays", 4, x::clearText);
        C.answers("restore(0): the slot stays", 7, () -> x.restore(0));
        C.answers("setting(0)", 7, () -> x.setting(0));
        C.fails("undo() behind restore", Check.STATE, x::undo);
        C.fails("undo() of a new object", Check.STATE, () -> new GapLines().undo());
    }

    private static void noOtherCallIsAnAction() {
        GapLines x = Check.example();
        x.clearText();
        x.append('L');
        x.errorPosition();
        x.about(0);
        x.read(0);
        x.place(0);
        x.line(0);
        x.wear(0);
        x.setting(0);
        x.life(0);
        x.lifeOfAll();
        x.ifEvery(0, 1, 9);
        x.bestEvery(0, 9);
        x.movesTo(0);
        x.placeBehind(0, 9);
        x.runScript(1, 100001);
        x.simulate(1, 9);
        x.save(1);
        C.same("the store behind such calls", Check.EXAMPLE, Check.seen(x));
        C.answers("undo()", 7, x::undo);
    }

    public static void main(String[] args) {
        fourteenStates();
        everything();
        allPlaces();
        notTheTextNorTheSlots();
        noOtherCallIsAnAction();
        C.end();
    }
}
