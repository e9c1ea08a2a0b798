/** "Terms", EXCEPTIONS. */
public final class EdgesExceptions {
    private static void meanings(Sentences t) {
        t.of("IndexOutOfBoundsException means that a line or a place does not exist,"
                + " or that a save slot is not 0 or 1.");
        t.refuses("the line n", Check.INDEX, x -> x.read(4));
        t.allows("the place n", x -> x.wear(4));
        t.refuses("the place n + 1", Check.INDEX, x -> x.wear(5));
        t.refuses("the slot -1", Check.INDEX, x -> x.save(-1));
        t.allows("the slot 0", x -> x.save(0));
        t.allows("the slot 1", x -> x.save(1));
        t.refuses("the slot 2", Check.INDEX, x -> x.save(2));
        t.refuses("the slot 2, restored", Check.INDEX, x -> x.restore(2));

        t.of("IllegalArgumentException means that another argument is out of its range.");
        t.refuses("a character", Check.ARGUMENT, x -> x.append(256));
        t.refuses("a number to tell", Check.ARGUMENT, x -> x.about(12));
        t.refuses("a setting to tell", Check.ARGUMENT, x -> x.setting(2));
        t.refuses("a setting to change", Check.ARGUMENT, x -> x.set(2, 8));
        t.refuses("the lines of a store", Check.ARGUMENT, x -> x.make(33, 1, 0));
        t.refuses("a value", Check.ARGUMENT, x -> x.write(0, 1000));
        t.refuses("a number of times", Check.ARGUMENT, x -> x.hammer(0, 501));
        t.refuses("a number of moves", Check.ARGUMENT, x -> x.placeBehind(0, 10000));
        t.refuses("a script", Check.ARGUMENT, x -> x.runScript(1, 1000000));
        t.refuses("a number of writes", Check.ARGUMENT, x -> x.simulate(0, 301));
    }

    private static void order(Sentences t) {
        t.of("If several exceptions apply to a call, the one that its description names first is thrown.");
        t.refuses("append(256) to a full text", Check.ARGUMENT, Stores::fullText, x -> x.append(256));
        t.refuses("append(-1) to a full text", Check.ARGUMENT, Stores::fullText, x -> x.append(-1));
        t.refuses("write() of no line, of no value", Check.INDEX, x -> x.write(4, 1000));
        t.refuses("write() of no line, of no value, dead", Check.INDEX, Stores::dead, x -> x.write(-1, -1));
        t.refuses("write() of no line, dead", Check.INDEX, Stores::dead, x -> x.write(4, 0));
        t.refuses("write() of no value, dead", Check.ARGUMENT, Stores::dead, x -> x.write(0, 1000));
        t.refuses("write() of no value without a store", Check.INDEX, GapLines::new, x -> x.write(0, 1000));
        t.refuses("hammer() of no line, so often", Check.INDEX, x -> x.hammer(4, 501));
        t.refuses("hammer() so often without a store", Check.INDEX, GapLines::new, x -> x.hammer(0, 0));
        t.refuses("all() so often without a store", Check.ARGUMENT, GapLines::new, x -> x.all(51));
        t.refuses("ifEvery() of no line, of no setting", Check.INDEX, x -> x.ifEvery(4, 51, 1));
        t.refuses("ifEvery() of no line, so often", Check.INDEX, x -> x.ifEvery(4, 1, 501));
        t.refuses("ifEvery() of no line, all arguments wrong", Check.INDEX, x -> x.ifEvery(-1, 0, 0));
        t.refuses("bestEvery() of no line, so often", Check.INDEX, x -> x.bestEvery(4, 0));
        t.refuses("placeBehind() of no line, so often", Check.INDEX, x -> x.placeBehind(4, -1));
        t.refuses("placeBehind() so often without a store", Check.INDEX, GapLines::new, x -> x.placeBehind(0, 10000));
        t.refuses("restore() of no slot, nothing saved", Check.INDEX, GapLines::new, x -> x.restore(2));
    }

    private static void nothingChanges(Sentences t) {
        t.of("A call that throws an exception changes nothing.");
        t.refuses("append() of no character", Check.ARGUMENT, x -> x.append(-1));
        t.refuses("append() to a full text", Check.STATE, Stores::fullText, x -> x.append('a'));
        t.refuses("load() of no story", Check.STATE, x -> x.load());
        t.refuses("about()", Check.ARGUMENT, x -> x.about(-1));
        t.refuses("read()", Check.INDEX, x -> x.read(-1));
        t.refuses("place()", Check.INDEX, x -> x.place(-1));
        t.refuses("line()", Check.INDEX, x -> x.line(-1));
        t.refuses("wear()", Check.INDEX, x -> x.wear(-1));
        t.refuses("setting()", Check.ARGUMENT, x -> x.setting(-1));
        t.refuses("make() of no lines", Check.ARGUMENT, x -> x.make(3, 1, 0));
        t.refuses("make() of no key", Check.ARGUMENT, x -> x.make(8, 0, 0));
        t.refuses("make() of a common divisor", Check.ARGUMENT, x -> x.make(8, 6, 0));
        t.refuses("make() of so many spare media", Check.ARGUMENT, x -> x.make(8, 5, 5));
        t.refuses("write() of no line", Check.INDEX, x -> x.write(-1, 5));
        t.refuses("write() of no value", Check.ARGUMENT, x -> x.write(0, -1));
        t.refuses("write() of a dead store", Check.STATE, Stores::dead, x -> x.write(0, 5));
        t.refuses("hammer() of no line", Check.INDEX, x -> x.hammer(-1, 5));
        t.refuses("hammer() so often", Check.ARGUMENT, x -> x.hammer(0, 0));
        t.refuses("all() so often", Check.ARGUMENT, x -> x.all(0));
        t.refuses("all() without a store", Check.STATE, GapLines::new, x -> x.all(1));
        t.refuses("set() of no setting", Check.ARGUMENT, x -> x.set(-1, 50));
        t.refuses("set() of setting 0 out of its range", Check.ARGUMENT, x -> x.set(0, 4));
        t.refuses("set() of setting 1 out of its range", Check.ARGUMENT, x -> x.set(1, 0));
        t.refuses("undo() of nothing", Check.STATE, GapLines::new, GapLines::undo);
        t.refuses("life()", Check.INDEX, x -> x.life(-1));
        t.refuses("lifeOfAll()", Check.STATE, GapLines::new, GapLines::lifeOfAll);
        t.refuses("ifEvery() of no line", Check.INDEX, x -> x.ifEvery(-1, 1, 1));
        t.refuses("ifEvery() of no setting", Check.ARGUMENT, x -> x.ifEvery(0, 0, 1));
        t.refuses("ifEvery() so often", Check.ARGUMENT, x -> x.ifEvery(0, 50, 0));
        t.refuses("bestEvery() of no line", Check.INDEX, x -> x.bestEvery(-1, 1));
        t.refuses("bestEvery() so often", Check.ARGUMENT, x -> x.bestEvery(0, 501));
        t.refuses("movesTo()", Check.INDEX, x -> x.movesTo(-1));
        t.refuses("placeBehind() of no line", Check.INDEX, x -> x.placeBehind(-1, 1));
        t.refuses("placeBehind() so often", Check.ARGUMENT, x -> x.placeBehind(0, -1));
        t.refuses("runScript() of no number", Check.ARGUMENT, x -> x.runScript(0, 100001));
        t.refuses("runScript() of too many digits", Check.ARGUMENT, x -> x.runScript(1, 100001100001L));
        t.refuses("simulate() so often", Check.ARGUMENT, x -> x.simulate(1, 0));
        t.refuses("save()", Check.INDEX, x -> x.save(-1));
        t.refuses("restore() of no slot", Check.INDEX, x -> x.restore(-1));
        t.refuses("restore() of an empty slot", Check.STATE, x -> x.restore(0));
    }

    public static void main(String[] args) {
        Sentences t = new Sentences("EXCEPTIONS");
        meanings(t);
        order(t);
        nothingChanges(t);
        t.end();
    }
}
