/** "Terms", ACTIONS AND UNDO. */
public final class EdgesActions {
    /** The call is an action: undo takes it back, and 8 states are remembered then, as before it. */
    private static void isAction(Sentences t, String edge, Sentences.On on) {
        t.test(edge, c -> {
            GapLines x = Stores.rich();
            on.call(x);
            c.answers("undo()", 8, x::undo);
            c.same("everything behind it", Stores.whole(Stores.rich()), Stores.whole(x));
        });
    }

    /** The same of a dead store, where 11 states are remembered. */
    private static void isActionOfDead(Sentences t, String edge, Sentences.On on) {
        t.test(edge, c -> {
            GapLines x = Stores.dead();
            on.call(x);
            c.answers("undo()", 11, x::undo);
            c.same("everything behind it", Stores.whole(Stores.dead()), Stores.whole(x));
        });
    }

    private static void whichCalls(Sentences t) {
        t.of("Each call of one of them that does not throw an exception is an action,"
                + " also if nothing becomes different (undo is none).");
        isAction(t, "make()", x -> x.make(32, 31, 4));
        isAction(t, "make() of the same store", x -> x.make(4, 1, 0));
        isAction(t, "write()", x -> x.write(0, 999));
        isAction(t, "hammer()", x -> x.hammer(0, 1));
        isAction(t, "all()", x -> x.all(1));
        isAction(t, "set()", x -> x.set(0, 999));
        isAction(t, "set() of setting 0 to what it is", x -> x.set(0, 5));
        isAction(t, "set() of setting 1 to what it is", x -> x.set(1, 2));
        isActionOfDead(t, "hammer() of a dead store, where nothing becomes different", x -> x.hammer(0, 500));
        isActionOfDead(t, "all() of a dead store, where nothing becomes different", x -> x.all(50));
        isActionOfDead(t, "set() of a dead store", x -> x.set(1, 50));
        t.answers("make() of the first store of all", 0, () -> {
            GapLines x = new GapLines();
            x.make(4, 1, 0);
            return x;
        }, GapLines::undo);
        t.answers("undo is none: undo again takes back the action before", 101, () -> Stores.remembering(3), x -> {
            x.undo();
            x.undo();
            return x.setting(0);
        });
        t.answers("undo is none: it remembers no state", 0, () -> Stores.remembering(2), x -> {
            x.undo();
            return x.undo();
        });
        isNone(t, "append()", x -> x.append('0'));
        isNone(t, "clearText()", GapLines::clearText);
        isNone(t, "save()", x -> x.save(0));
        isNone(t, "runScript() of a command that writes", x -> x.runScript(1, 100001));
        isNone(t, "simulate()", x -> x.simulate(1, 300));
        isNone(t, "life()", x -> x.life(0));
        isNone(t, "lifeOfAll()", GapLines::lifeOfAll);
        isNone(t, "ifEvery()", x -> x.ifEvery(0, 1, 500));
        isNone(t, "bestEvery()", x -> x.bestEvery(0, 500));
        isNone(t, "write() that throws", x -> x.write(4, 0));
        isNone(t, "hammer() that throws", x -> x.hammer(0, 501));
        isNone(t, "all() that throws", x -> x.all(51));
        isNone(t, "set() that throws", x -> x.set(0, 4));
        isNone(t, "make() that throws", x -> x.make(4, 2, 0));
        t.refuses("undo() that throws", Check.STATE, GapLines::new, GapLines::undo);
    }

    private static void isNone(Sentences t, String edge, Sentences.On on) {
        t.test(edge + " is none", c -> {
            GapLines x = Stores.rich();
            Check.outcome(() -> on.call(x));
            c.answers("undo()", 7, x::undo);
        });
    }

    /** Takes back so many actions, and answers the setting 0. */
    private static long back(GapLines x, int times) {
        for (int i = 0; i < times; i++) {
            x.undo();
        }
        return x.setting(0);
    }

    private static void howMany(Sentences t) {
        t.of("Before each action, the state is remembered.");
        t.answers("the first action of all", 100, () -> Stores.remembering(1), x -> back(x, 1));
        t.answers("the second one", 101, () -> Stores.remembering(2), x -> back(x, 1));

        t.of("At most 14 states are remembered; when one more is remembered, the oldest one is forgotten.");
        t.answers("13 actions: 12 states are left", 12, () -> Stores.remembering(13), GapLines::undo);
        t.answers("14 actions: 13 states are left", 13, () -> Stores.remembering(14), GapLines::undo);
        t.answers("14 actions: the oldest state is there", 100, () -> Stores.remembering(14), x -> back(x, 14));
        t.answers("15 actions: 13 states are left", 13, () -> Stores.remembering(15), GapLines::undo);
        t.answers("15 actions: the state before the last one is there", 114, () -> Stores.remembering(15),
                x -> back(x, 1));
        t.answers("15 actions: the oldest state is forgotten", 101, () -> Stores.remembering(15), x -> back(x, 14));
        t.refuses("15 actions: undo can be called 14 times", Check.STATE, () -> back14(15), GapLines::undo);
        t.answers("28 actions: two times 14", 114, () -> Stores.remembering(28), x -> back(x, 14));
        t.answers("29 actions", 115, () -> Stores.remembering(29), x -> back(x, 14));
        t.answers("300 actions", 386, () -> Stores.remembering(300), x -> back(x, 14));
        t.answers("14 actions, one taken back, one more: the oldest state is there", 100,
                () -> Stores.remembering(14), x -> {
                    x.undo();
                    x.set(0, 200);
                    return back(x, 14);
                });
        t.answers("14 actions, one taken back, two more: the oldest state is forgotten", 101,
                () -> Stores.remembering(14), x -> {
                    x.undo();
                    x.set(0, 200);
                    x.set(0, 201);
                    return back(x, 14);
                });
        t.answers("all taken back, one more", 100, () -> back14(14), x -> {
            x.set(0, 200);
            return back(x, 1);
        });
        t.answers("an action that throws does not forget the oldest state", 100, () -> Stores.remembering(14), x -> {
            Check.outcome(() -> x.set(0, 1000));
            return back(x, 14);
        });
    }

    private static GapLines back14(int actions) {
        GapLines x = Stores.remembering(actions);
        back(x, 14);
        return x;
    }

    private static void whatElse(Sentences t) {
        t.of("the state, which consists of everything but the text and the save slots");
        t.answers("undo leaves the text", 3, Stores::rich, x -> {
            x.undo();
            return x.clearText();
        });
        t.answers("undo leaves what was appended behind the action", 4, Stores::rich, x -> {
            x.append('0');
            x.undo();
            return x.clearText();
        });
        t.answers("undo leaves the slot that was saved behind the action", 8, Stores::rich, x -> {
            x.write(0, 5);
            x.save(0);
            x.undo();
            return x.restore(0);
        });
        t.answers("undo brings back the settings", 5, Stores::rich, x -> {
            x.set(0, 999);
            return back(x, 1);
        });
        t.test("undo brings back that there is no store", c -> {
            GapLines x = Check.store(4, 1, 0);
            x.undo();
            c.same("the state", "about 0 0 0 0 0 0 0 0 0 0 0 0 settings 100 8 lines places", Check.seen(x));
        });
        t.test("undo brings a dead store back to life", c -> {
            GapLines x = Stores.calm();
            x.set(0, 5);
            x.hammer(0, 5);
            c.answers("about(9)", 1, () -> x.about(9));
            x.undo();
            c.answers("about(9) behind undo()", 0, () -> x.about(9));
            c.answers("about(4) behind undo()", 0, () -> x.about(4));
        });
        t.test("undo of make() brings back a dead store", c -> {
            GapLines x = Stores.dead();
            x.make(32, 1, 4);
            x.undo();
            c.same("the state", Check.DEAD, Check.seen(x));
        });
        t.test("undo brings back the last line and the last place of 32 lines", c -> {
            GapLines x = Stores.moved(32, 1, 1);
            String before = Check.seen(x);
            x.write(31, 999);
            x.undo();
            c.same("the state", before, Check.seen(x));
        });

        t.of("what would be; these and all following methods up to the save slots change nothing");
        t.changesNothing("life(), behind which the store would be dead", Stores::rich, x -> x.life(0));
        t.changesNothing("lifeOfAll(), behind which the store would be dead", Stores::rich, GapLines::lifeOfAll);
        t.changesNothing("ifEvery() of another setting 1", Stores::rich, x -> x.ifEvery(0, 50, 500));
        t.changesNothing("bestEvery()", Stores::rich, x -> x.bestEvery(3, 500));
        t.changesNothing("movesTo()", Stores::rich, x -> x.movesTo(3));
        t.changesNothing("placeBehind() of the greatest number", Stores::rich, x -> x.placeBehind(3, 9999));
        t.changesNothing("runScript() of commands that change all", Stores::rich,
                x -> x.runScript(3, 409990_410500_203500L));
        t.changesNothing("runScript() of a command that fails", Stores::rich, x -> x.runScript(2, 103999_104999L));
        t.changesNothing("simulate() of the greatest number", Stores::rich, x -> x.simulate(7, 300));
        t.changesNothing("life() of a store where 14 states are remembered", () -> {
            GapLines x = Stores.remembering(13);
            x.make(4, 1, 0);
            return x;
        }, x -> x.life(0));

        t.of("load and restore are not actions.");
        t.refuses("undo behind load", Check.STATE, () -> Check.loaded("L04010a1"), GapLines::undo);
        t.refuses("undo behind load, where states were remembered", Check.STATE, () -> {
            GapLines x = Stores.fullText();
            x.load();
            return x;
        }, GapLines::undo);
        t.refuses("undo behind restore, where states were remembered", Check.STATE, () -> {
            GapLines x = Stores.rich();
            x.restore(1);
            return x;
        }, GapLines::undo);
    }

    public static void main(String[] args) {
        Sentences t = new Sentences("ACTIONS AND UNDO");
        whichCalls(t);
        howMany(t);
        whatElse(t);
        t.end();
    }
}
