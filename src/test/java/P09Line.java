public final class P09Line {
    public static void main(String[] args) {
        Check c = new Check();
        c.fails("line(0) without a store", Check.INDEX, () -> new GapLines().line(0));
        GapLines x = Check.store(9, 4, 4, 999, 1);
        for (int move = 0; move < 40; move++) {
            for (int l = 0; l < 9; l++) {
                int line = l;
                c.answers("line(place(" + l + ")) behind " + move + " moves", l, () -> x.line(x.place(line)));
            }
            c.answers("line(the gap)", -1, () -> x.line(x.about(2)));
            x.write(0, 0);
            if (move % 4 == 0) {
                x.make(9, 4, 4);
                x.hammer(1, move + 1);
            }
        }
        c.fails("line(10)", Check.INDEX, () -> x.line(10));
        c.fails("line(-1)", Check.INDEX, () -> x.line(-1));
        c.fails("line(MAX)", Check.INDEX, () -> x.line(Integer.MAX_VALUE));
        c.fails("line(MIN)", Check.INDEX, () -> x.line(Integer.MIN_VALUE));
        GapLines y = Check.store(6, 5, 2);
        int[] due = {0, 5, 4, 3, 2, 1, -1};
        for (int p = 0; p <= 6; p++) {
            int place = p;
            c.answers("line(" + p + ")", due[p], () -> y.line(place));
        }
        c.fails("line(7)", Check.INDEX, () -> y.line(7));
        c.end();
    }
}
