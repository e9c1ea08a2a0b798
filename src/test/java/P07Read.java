public final class P07Read {
    public static void main(String[] args) {
        Check c = new Check();
        c.fails("read(0) without a store", Check.INDEX, () -> new GapLines().read(0));
        GapLines x = Check.store(7, 3, 1, 5, 1);
        for (int l = 0; l < 7; l++) {
            int line = l;
            c.answers("read(" + l + ") at first", 0, () -> x.read(line));
            x.write(l, 900 + l);
        }
        x.hammer(6, 4);
        for (int l = 0; l < 7; l++) {
            int line = l;
            c.answers("read(" + l + ")", 900 + l, () -> x.read(line));
        }
        x.write(3, 0);
        c.answers("read(3)", 0, () -> x.read(3));
        x.write(3, 999);
        c.answers("read(3)", 999, () -> x.read(3));
        c.answers("read(4)", 904, () -> x.read(4));
        c.fails("read(7)", Check.INDEX, () -> x.read(7));
        c.fails("read(-1)", Check.INDEX, () -> x.read(-1));
        c.fails("read(MAX)", Check.INDEX, () -> x.read(Integer.MAX_VALUE));
        c.fails("read(MIN)", Check.INDEX, () -> x.read(Integer.MIN_VALUE));
        c.answers("read(3) of a dead store: what was laid last is there", 11, () -> Check.exampleDead().read(3));
        GapLines most = Check.store(32, 31, 0);
        most.write(31, 5);
        c.answers("read(31)", 5, () -> most.read(31));
        c.fails("read(32)", Check.INDEX, () -> most.read(32));
        x.make(7, 3, 0);
        c.answers("read(4) of a new store", 0, () -> x.read(4));
        c.end();
    }
}
