public final class P16Set {
    public static void main(String[] args) {
        Check c = new Check();
        GapLines x = new GapLines();
        c.answers("set(0, 5)", 100, () -> x.set(0, 5));
        c.answers("set(0, 999)", 5, () -> x.set(0, 999));
        c.answers("set(0, 999) again", 999, () -> x.set(0, 999));
        c.answers("set(1, 1)", 8, () -> x.set(1, 1));
        c.answers("set(1, 50)", 1, () -> x.set(1, 50));
        int[][] wrong = {{0, 4}, {0, 1000}, {0, -5}, {0, Integer.MAX_VALUE}, {0, Integer.MIN_VALUE}, {1, 0}, {1, 51},
            {1, 100}, {1, -1}, {1, Integer.MAX_VALUE}, {1, Integer.MIN_VALUE}, {2, 8}, {2, 100}, {-1, 8}, {-1, 100},
            {Integer.MAX_VALUE, 8}, {Integer.MIN_VALUE, 8}};
        for (int[] w : wrong) {
            c.fails("set(" + w[0] + ", " + w[1] + ")", Check.ARGUMENT, () -> x.set(w[0], w[1]));
        }
        c.answers("setting(0)", 999, () -> x.setting(0));
        c.answers("setting(1)", 50, () -> x.setting(1));
        c.answers("undo(): 5 calls were actions", 4, x::undo);
        c.answers("setting(1)", 1, () -> x.setting(1));
        c.answers("undo()", 3, x::undo);
        c.answers("undo() of what made nothing different", 2, x::undo);
        c.answers("setting(0)", 999, () -> x.setting(0));
        c.answers("undo()", 1, x::undo);
        c.answers("setting(0)", 5, () -> x.setting(0));
        GapLines y = Check.exampleDead();
        c.answers("set(0, 999) of a dead store", 5, () -> y.set(0, 999));
        c.answers("about(9): it stays dead", 1, () -> y.about(9));
        c.fails("write(0, 0)", Check.STATE, () -> y.write(0, 0));
        c.end();
    }
}
