public final class P05Load {
    private static final Check C = new Check();
    private static final String NO_STORE = "about 0 0 0 0 0 0 0 0 0 0 0 0 settings 100 8 lines places";

    private static void leftOut(String text, int due, int lines, int writes) {
        GapLines x = Check.text(text);
        C.answers("load() of " + text, due, x::load);
        C.answers("about(0) behind " + text, lines, () -> x.about(0));
        C.answers("about(4) behind " + text, writes, () -> x.about(4));
    }

    private static void stories() {
        leftOut("L04010", 0, 4, 0);
        leftOut("L32314a9", 0, 32, 288);
        leftOut("L06051w00123w05999", 0, 6, 2);
        leftOut("L06051w06123", 1, 6, 0);
        leftOut("L06051h0799h0503", 1, 6, 3);
        leftOut("L06051w31000h3101a1", 2, 6, 6);
        leftOut("L06041w00123h0002a1", 3, 0, 0);
        leftOut("L06061a1", 1, 0, 0);
        leftOut("L06311a1a2", 2, 0, 0);
        leftOut("L06041", 0, 0, 0);
    }

    private static void whatIsMade() {
        GapLines x = Check.text("L05023w01321w04007h0103a1");
        C.answers("load()", 0, x::load);
        // 10 writes: w01 at the place 2, w04 at 3, three times at 2, 0 at 0, 1 at 2, 2 at 4 and then the gap moves
        // (the place 5 gets what was at 4), 3 at 1, 4 at 3.
        C.same("the store", "about 5 0 4 3 10 1 5 1 2 0 0 11 settings 100 8"
                + " lines 0@0 321@2 0@5 0@1 7@3 places 0/1 3/1 1/5 4/2 -1/1 2/1", Check.seen(x));
        C.answers("load() again", 0, x::load);
        C.answers("it begins anew", 10, () -> x.about(4));
        C.answers("it keeps the text", 25, x::clearText);
    }

    private static void nothingStays() {
        GapLines x = Check.example();
        x.save(0);
        x.save(1);
        Check.type(x, "L06041a1");
        C.answers("load() with a common divisor", 1, x::load);
        C.same("no store", NO_STORE, Check.seen(x));
        C.fails("undo() behind load()", Check.STATE, x::undo);
        C.fails("restore(0) behind load()", Check.STATE, () -> x.restore(0));
        C.fails("restore(1) behind load()", Check.STATE, () -> x.restore(1));
        x.make(5, 2, 0);
        x.save(1);
        C.fails("restore(0) behind save(1)", Check.STATE, () -> x.restore(0));
        C.answers("restore(1)", 0, () -> x.restore(1));
        GapLines y = Check.example();
        Check.type(y, "L04010");
        y.load();
        C.answers("setting(0)", 100, () -> y.setting(0));
        C.answers("setting(1)", 8, () -> y.setting(1));
        C.fails("undo() behind load()", Check.STATE, y::undo);
        y.write(0, 1);
        C.answers("undo() of the write behind it", 0, y::undo);
        C.answers("about(0)", 4, () -> y.about(0));
    }

    private static void noStory() {
        GapLines x = Check.example();
        x.save(0);
        for (String text : new String[] {"", "L", "L0401", "L04010w", "L04010x", "L03010", "L04010a1h"}) {
            Check.type(x, text);
            C.fails("load() of \"" + text + "\"", Check.STATE, x::load);
            C.same("the store", Check.EXAMPLE, Check.seen(x));
        }
        C.answers("clearText() behind it", 9, x::clearText);
        C.answers("restore(0)", 7, () -> x.restore(0));
        GapLines y = Check.example();
        C.fails("load() of no text", Check.STATE, y::load);
        C.answers("undo()", 7, y::undo);
    }

    private static void deadOnTheWay() {
        GapLines fresh = Check.loaded("L04010");
        int life = fresh.life(0);
        // To write a line throws if the store is dead, to hammer one and to write all does not.
        GapLines x = Check.text("L04010" + "h0099".repeat(8) + "w00001a1h0101w01001w04001");
        C.answers("load() of a store that dies", 3, x::load);
        C.answers("about(9)", 1, () -> x.about(9));
        C.answers("about(4)", life, () -> x.about(4));
        C.answers("read(0)", 0, () -> x.read(0));
    }

    public static void main(String[] args) {
        stories();
        whatIsMade();
        nothingStays();
        noStory();
        deadOnTheWay();
        C.end();
    }
}
