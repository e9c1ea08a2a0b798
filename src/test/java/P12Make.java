import java.math.BigInteger;

public final class P12Make {
    private static final Check C = new Check();

    private static void shapes() {
        for (int n = 0; n <= 34; n++) {
            GapLines x = new GapLines();
            for (int key = -1; key <= 35; key++) {
                int lines = n;
                int theKey = key;
                boolean right = n >= 4 && n <= 32 && key >= 1 && key < n
                        && BigInteger.valueOf(n).gcd(BigInteger.valueOf(key)).intValue() == 1;
                String call = "make(" + n + ", " + key + ", 0)";
                if (right) {
                    C.answers(call, key, () -> x.make(lines, theKey, 0));
                } else {
                    C.fails(call, Check.ARGUMENT, () -> x.make(lines, theKey, 0));
                }
            }
        }
    }

    private static void wrongArguments() {
        GapLines x = Check.example();
        int[][] wrong = {{3, 1, 0}, {33, 1, 0}, {-5, 1, 0}, {Integer.MAX_VALUE, 1, 0}, {Integer.MIN_VALUE, 1, 0},
            {6, 0, 0}, {6, 6, 0}, {6, 7, 0}, {6, -1, 0}, {6, Integer.MIN_VALUE, 0}, {6, Integer.MAX_VALUE, 0},
            {6, 3, 0}, {9, 6, 0}, {32, 30, 0}, {5, 1, -1}, {5, 1, 5}, {5, 1, Integer.MAX_VALUE},
            {5, 1, Integer.MIN_VALUE}, {0, 0, 0}};
        for (int[] w : wrong) {
            C.fails("make(" + w[0] + ", " + w[1] + ", " + w[2] + ")", Check.ARGUMENT, () -> x.make(w[0], w[1], w[2]));
        }
        C.same("the store", Check.EXAMPLE, Check.seen(x));
        C.answers("no such call was an action", 8, () -> {
            int remembered = 0;
            while (x.about(4) + x.about(0) > 0 || x.setting(0) != 100) {
                x.undo();
                remembered++;
            }
            return remembered;
        });
    }

    private static void whateverThereIs() {
        GapLines x = Check.exampleDead();
        C.answers("make(5, 3, 4)", 3, () -> x.make(5, 3, 4));
        C.same("the new store", "about 5 0 5 4 0 0 0 0 0 0 0 0 settings 5 2"
                + " lines 0@0 0@3 0@1 0@4 0@2 places 0/0 2/0 4/0 1/0 3/0 -1/0", Check.seen(x));
        C.answers("write(4, 1)", 0, () -> x.write(4, 1));
        C.answers("undo()", 12, x::undo);
        C.answers("undo()", 11, x::undo);
        C.same("the store before", Check.DEAD, Check.seen(x));
        C.answers("make(4, 1, 0)", 1, () -> x.make(4, 1, 0));
        C.answers("make(4, 1, 0)", 1, () -> x.make(4, 1, 0));
        C.answers("undo() of make", 12, x::undo);
    }

    public static void main(String[] args) {
        shapes();
        wrongArguments();
        whateverThereIs();
        C.end();
    }
}
