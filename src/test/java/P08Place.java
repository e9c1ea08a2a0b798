public final class P08Place {
    public static void main(String[] args) {
        Check c = new Check();
        c.fails("place(0) without a store", Check.INDEX, () -> new GapLines().place(0));
        // 10 lines with the key 3; the gap goes through all places twice, and further to the place 8.
        GapLines x = Check.store(10, 3, 4, 999, 1);
        int start = 0;
        int gap = 10;
        for (int move = 0; move < 24; move++) {
            for (int l = 0; l < 10; l++) {
                int line = l;
                int rank = (3 * l + start) % 10;
                c.answers("place(" + l + ") behind " + move + " moves", rank < gap ? rank : rank + 1,
                        () -> x.place(line));
            }
            x.write(0, 0);
            if (gap == 0) {
                start++;
            }
            gap = gap == 0 ? 10 : gap - 1;
        }
        c.fails("place(10)", Check.INDEX, () -> x.place(10));
        c.fails("place(-1)", Check.INDEX, () -> x.place(-1));
        c.fails("place(MAX)", Check.INDEX, () -> x.place(Integer.MAX_VALUE));
        c.fails("place(MIN)", Check.INDEX, () -> x.place(Integer.MIN_VALUE));
        // Four rounds of the gap: the start is 0 again.
        GapLines round = Check.store(4, 3, 0, 999, 1);
        round.hammer(2, 19);
        c.answers("about(1)", 3, () -> round.about(1));
        round.hammer(2, 1);
        c.answers("about(1) behind 20 moves", 0, () -> round.about(1));
        c.answers("about(2) behind 20 moves", 4, () -> round.about(2));
        c.answers("place(1) behind 20 moves", 3, () -> round.place(1));
        c.end();
    }
}
