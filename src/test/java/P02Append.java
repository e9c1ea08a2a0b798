public final class P02Append {
    public static void main(String[] args) {
        Check c = new Check();
        GapLines x = new GapLines();
        c.fails("append(-1)", Check.ARGUMENT, () -> x.append(-1));
        c.fails("append(256)", Check.ARGUMENT, () -> x.append(256));
        c.fails("append(MAX)", Check.ARGUMENT, () -> x.append(Integer.MAX_VALUE));
        c.fails("append(MIN)", Check.ARGUMENT, () -> x.append(Integer.MIN_VALUE));
        c.answers("append(0)", 1, () -> x.append(0));
        c.answers("append(255)", 2, () -> x.append(255));
        for (int length = 3; length <= 120; length++) {
            c.answers("append('a')", length, () -> x.append('a'));
        }
        c.fails("append('a') to a full text", Check.STATE, () -> x.append('a'));
        c.fails("append(256) to a full text", Check.ARGUMENT, () -> x.append(256));
        c.fails("append(-1) to a full text", Check.ARGUMENT, () -> x.append(-1));
        c.answers("clearText() of a full text", 120, x::clearText);
        c.answers("append('L') behind it", 1, () -> x.append('L'));
        c.answers("errorPosition() of L", 1, x::errorPosition);
        c.fails("append is no action", Check.STATE, x::undo);
        c.end();
    }
}
