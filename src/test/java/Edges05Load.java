/** Promise 5. */
public final class Edges05Load {
    private static final String NO_STORE = "about 0 0 0 0 0 0 0 0 0 0 0 0 settings 100 8 lines places";

    private static GapLines typed(GapLines x, String text) {
        Check.type(x, text);
        return x;
    }

    private static GapLines loaded(GapLines x, String text) {
        Check.type(x, text);
        x.load();
        return x;
    }

    private static void whatItMakes(Sentences t) {
        t.of("Makes everything as in a new object, makes a store (if its key is right)");
        t.test("the least store", c -> c.same("the state", "about 4 0 4 0 0 0 0 0 0 0 0 0 settings 100 8"
                + " lines 0@0 0@1 0@2 0@3 places 0/0 1/0 2/0 3/0 -1/0", Check.seen(Check.loaded("L04010"))));
        t.answers("the greatest store: its lines", 32, () -> Check.loaded("L32314"), x -> x.about(0));
        t.answers("the greatest store: its spare media", 4, () -> Check.loaded("L32314"), x -> x.about(3));
        t.answers("the greatest store: its key", 1, () -> Check.loaded("L32314"), x -> x.place(31));
        t.test("the key is the lines: no store, also behind one", c ->
                c.same("the state", NO_STORE, Check.seen(loaded(Stores.rich(), "L04040"))));
        t.test("a common divisor: no store, also behind a dead one", c ->
                c.same("the state", NO_STORE, Check.seen(loaded(Stores.dead(), "L04020"))));
        t.answers("setting 0 is as at first", 100, () -> loaded(Stores.rich(), "L04010"), x -> x.setting(0));
        t.answers("setting 1 is as at first", 8, () -> loaded(Stores.rich(), "L04010"), x -> x.setting(1));
        t.answers("a dead store lives again", 0, () -> loaded(Stores.dead(), "L04010"), x -> x.about(9));

        t.of("and then does the commands of the text");
        t.answers("none", 0, () -> Check.loaded("L04010"), x -> x.about(4));
        t.answers("the last of a full text", 777, () -> Check.loaded("L04010" + "w00001".repeat(18) + "w00777"),
                x -> x.read(0));
        t.answers("all of a full text", 19, () -> Check.loaded("L04010" + "w00001".repeat(19)), x -> x.about(4));
        t.answers("w of the greatest value", 999, () -> Check.loaded("L32010w31999"), x -> x.read(31));
        t.answers("h of the greatest number", 99, () -> Check.loaded("L32010h3199"), x -> x.about(4));
        t.answers("a of the greatest number", 288, () -> Check.loaded("L32010a9"), x -> x.about(4));
        t.answers("a of the least number", 32, () -> Check.loaded("L32010a1"), x -> x.about(4));
    }

    private static void whatIsForgotten(Sentences t) {
        t.of("Behind it no state is remembered, and both save slots are empty. Keeps the text.");
        t.refuses("14 states were remembered", Check.STATE, () -> loaded(Stores.remembering(14), "L04010"),
                GapLines::undo);
        t.refuses("the commands are not remembered", Check.STATE, () -> Check.loaded("L04010w00001a1h0001"),
                GapLines::undo);
        t.refuses("no store is made", Check.STATE, () -> loaded(Stores.remembering(14), "L04020"), GapLines::undo);
        t.refuses("the slot 0 was full", Check.STATE, () -> {
            GapLines x = Stores.rich();
            x.save(0);
            return loaded(x, "L04010");
        }, x -> x.restore(0));
        t.refuses("the slot 1 was full", Check.STATE, () -> loaded(Stores.rich(), "L04010"), x -> x.restore(1));
        t.refuses("the slot 1 was full, no store is made", Check.STATE, () -> loaded(Stores.rich(), "L04020"),
                x -> x.restore(1));
        t.answers("the text of 120 characters", 120, () -> {
            GapLines x = Stores.fullText();
            x.load();
            return x;
        }, GapLines::clearText);
        t.answers("the text of a store that is not made", 6, () -> Check.loaded("L04020"), GapLines::clearText);
        t.answers("the text can be loaded again", 1, () -> Check.loaded("L04010w04001"), GapLines::load);
    }

    private static void whatItAnswers(Sentences t) {
        t.of("Returns the number of commands that are left out.");
        t.answers("there are none", 0, () -> Check.text("L04010"), GapLines::load);
        t.answers("none of 57", 0, () -> Check.text("L32010" + "a1".repeat(57)), GapLines::load);
        t.answers("one of 3", 1, () -> Check.text("L04010a1w04000a1"), GapLines::load);
        t.answers("all of 57", 57, () -> Check.text("L31310" + "a1".repeat(57)), GapLines::load);
        t.answers("the last one alone", 1, () -> Check.text("L04010a1h0401"), GapLines::load);
        t.answers("the first one alone", 1, () -> Check.text("L04010w31000a1"), GapLines::load);

        t.of("Throws `IllegalStateException` if the text is not a story");
        t.refuses("no text", Check.STATE, GapLines::new, GapLines::load);
        t.refuses("no text, and a store", Check.STATE, () -> typed(Stores.rich(), ""), GapLines::load);
        t.refuses("one character less than a story", Check.STATE, () -> typed(Stores.rich(), "L0401"), GapLines::load);
        t.refuses("one character more than a story", Check.STATE, () -> typed(Stores.rich(), "L04010a"),
                GapLines::load);
        t.refuses("the first character is wrong", Check.STATE, () -> typed(Stores.rich(), "l04010"), GapLines::load);
        t.refuses("the last of 120 characters is wrong", Check.STATE,
                () -> typed(Stores.rich(), "L04010" + "a1".repeat(56) + "a0"), GapLines::load);
        t.refuses("a line that no story names", Check.STATE, () -> typed(Stores.rich(), "L32010w32000"),
                GapLines::load);
    }

    public static void main(String[] args) {
        Sentences t = new Sentences("Promise 5");
        whatItMakes(t);
        whatIsForgotten(t);
        whatItAnswers(t);
        t.end();
    }
}
