public final class P24RunScript {
    private static final Check C = new Check();

    private static void single(GapLines x, String which, int[] succeed, int[] fail) {
        for (int command : succeed) {
            C.answers("runScript(1, " + command + ") of " + which, -1, () -> x.runScript(1, command));
        }
        for (int command : fail) {
            C.answers("runScript(1, " + command + ") of " + which, 0, () -> x.runScript(1, command));
        }
    }

    /** The example: values 8 0 0 9, places 0 2 3 4, wears 1 0 1 1 3, the gap 1. */
    private static void commandsOfTheExample() {
        GapLines x = Check.example();
        single(x, "the example, writing",
                new int[] {100000, 103999, 200001, 200500, 203010, 300001, 300050},
                new int[] {104000, 199000, 200000, 200501, 204001, 300000, 300051, 300101, 310001, 301001, 399999});
        single(x, "the example, setting",
                new int[] {400050, 409990, 410010, 410500},
                new int[] {400040, 400051, 410000, 410510, 410015, 420080, 490080, 400000});
        single(x, "the example, values and places",
                new int[] {500008, 503009, 501000, 600000, 601002, 602003, 603004},
                new int[] {500007, 504000, 599000, 600001, 601001, 601102, 603904, 604000, 603099, 604004});
        single(x, "the example, wears and the rest",
                new int[] {700001, 700999, 701000, 704003, 800000, 900001},
                new int[] {700000, 704002, 705999, 799999, 800001, 800002, 800010, 810000, 801000, 900000, 900002,
                    900101, 910001, 900004, 900099});
        single(x, "the example, no command", new int[] {}, new int[] {0, 1, 99999, 1001, 50008});
        C.same("the store", Check.EXAMPLE, Check.seen(x));
        C.answers("undo(): runScript is no action", 7, x::undo);
    }

    private static void commandsOfOthers() {
        single(Check.exampleDead(), "the dead store",
                new int[] {200001, 200500, 300001, 300050, 400100, 410010, 503011, 603000, 700005, 800001, 900004},
                new int[] {100000, 200000, 204001, 300000, 300051, 503010, 700004, 800000, 800002, 900001});
        single(new GapLines(), "no store",
                new int[] {400050, 410500},
                new int[] {100000, 200001, 300001, 500000, 600000, 700999, 800000, 800001, 900000, 400040, 410510});
        single(Check.store(32, 1, 0), "32 lines",
                new int[] {131999, 231001, 531000, 631031, 732000, 900032},
                new int[] {132000, 232001, 532000, 632032, 733000, 900033, 900000});
    }

    private static void several() {
        GapLines x = Check.example();
        // The commands work on each other, and the first that fails is told.
        answer(x, 2, 100077_500077L, -1);
        answer(x, 2, 100077_500008L, 1);
        answer(x, 2, 500077_100077L, 0);
        answer(x, 3, 100077_101078_500077L, -1);
        answer(x, 3, 100077_101078_501077L, 2);
        answer(x, 3, 100077_504000_501077L, 1);
        answer(x, 3, 410010_200001_900000L, -1);
        answer(x, 3, 200500_800001_100000L, 2);
        answer(x, 3, 200500_800001_200001L, -1);
        answer(x, 3, 400050_200004_704003L, -1);
        answer(x, 3, 300001_200001_700004L, -1);
        answer(x, 3, 300001_200001_700003L, 2);
        // A number with fewer digits has zeros before it: its first commands fail.
        answer(x, 1, 0L, 0);
        answer(x, 2, 500008L, 0);
        answer(x, 3, 500008_500008L, 0);
        answer(x, 3, 0L, 0);
        answer(x, 1, 999999L, 0);
        answer(x, 2, 999999_999999L, 0);
        answer(x, 3, 999999_999999_999999L, 0);
        answer(x, 2, 500008_000000L, 1);
        // With the setting 1 as 2, both of these would move the gap, and once more than they do.
        answer(x, 3, 410500_200009_900001L, -1);
        answer(x, 3, 410010_200003_900003L, -1);
        C.same("the store", Check.EXAMPLE, Check.seen(x));
        // A command is done once: the last one makes the store dead, and could not be done again.
        GapLines y = Check.store(4, 1, 0, 5, 50);
        y.hammer(0, 4);
        answer(y, 1, 100001L, -1);
        answer(y, 2, 100001_100001L, 1);
        answer(y, 3, 400060_100001_100001L, -1);
    }

    private static void answer(GapLines x, int n, long script, int due) {
        C.answers("runScript(" + n + ", " + script + ")", due, () -> x.runScript(n, script));
    }

    private static void wrongArguments() {
        GapLines x = Check.example();
        for (int n : new int[] {0, 4, -1, Integer.MAX_VALUE, Integer.MIN_VALUE}) {
            C.fails("runScript(" + n + ", 500008)", Check.ARGUMENT, () -> x.runScript(n, 500008));
            C.fails("runScript(" + n + ", -1)", Check.ARGUMENT, () -> x.runScript(n, -1));
        }
        long[] most = {1, 1_000_000L, 1_000_000_000_000L, 1_000_000_000_000_000_000L};
        for (int n = 1; n <= 3; n++) {
            int commands = n;
            for (long script : new long[] {-1, -500008, Long.MIN_VALUE, Long.MAX_VALUE, most[n], most[n] + 500008}) {
                C.fails("runScript(" + n + ", " + script + ")", Check.ARGUMENT, () -> x.runScript(commands, script));
                C.fails("runScript without a store", Check.ARGUMENT, () -> new GapLines().runScript(commands, script));
            }
        }
        C.same("the store", Check.EXAMPLE, Check.seen(x));
    }

    public static void main(String[] args) {
        commandsOfTheExample();
        commandsOfOthers();
        several();
        wrongArguments();
        C.end();
    }
}
