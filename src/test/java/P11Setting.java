public final class P11Setting {
    public static void main(String[] args) {
        Check c = new Check();
        GapLines x = new GapLines();
        c.answers("setting(0)", 100, () -> x.setting(0));
        c.answers("setting(1)", 8, () -> x.setting(1));
        x.set(0, 999);
        c.answers("setting(0)", 999, () -> x.setting(0));
        c.answers("setting(1)", 8, () -> x.setting(1));
        x.set(1, 50);
        c.answers("setting(0)", 999, () -> x.setting(0));
        c.answers("setting(1)", 50, () -> x.setting(1));
        c.fails("setting(2)", Check.ARGUMENT, () -> x.setting(2));
        c.fails("setting(-1)", Check.ARGUMENT, () -> x.setting(-1));
        c.fails("setting(MAX)", Check.ARGUMENT, () -> x.setting(Integer.MAX_VALUE));
        c.fails("setting(MIN)", Check.ARGUMENT, () -> x.setting(Integer.MIN_VALUE));
        c.end();
    }
}
