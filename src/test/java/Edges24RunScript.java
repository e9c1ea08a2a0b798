import java.util.function.Supplier;

/** Promise 24. A command that succeeds alone answers NONE, one that fails answers 0. */
public final class Edges24RunScript {
    private static void succeeds(Sentences t, String edge, Supplier<GapLines> made, int command) {
        t.answers(edge + " (" + command + ")", GapLines.NONE, made, x -> x.runScript(1, command));
    }

    private static void fails(Sentences t, String edge, Supplier<GapLines> made, int command) {
        t.answers(edge + " (" + command + ")", 0, made, x -> x.runScript(1, command));
    }

    private static void runs(Sentences t, String edge, int n, long script, int due) {
        t.answers(edge, due, Stores::rich, x -> x.runScript(n, script));
    }

    /** 32 lines, whose gap has moved once: the line 31 lies at the place 32. */
    private static GapLines great() {
        return Stores.moved(32, 1, 1);
    }

    private static void numberAndScript(Sentences t) {
        t.of("`n`: number of commands, 1 to 3");
        t.refusesBeyondRange("n", 1, 3, (x, n) -> x.runScript(n, 800000));
        t.answers("a script of 1 command", -1, Stores::rich, x -> x.runScript(1, 800000));
        t.answers("a script of 3 commands", -1, Stores::rich, x -> x.runScript(3, 800000_800000_800000L));

        t.of("Throws `IllegalArgumentException` if n is out of range,"
                + " or if script is negative or has more than 6 * n digits");
        t.refuses("n is 0, and the script, too", Check.ARGUMENT, x -> x.runScript(0, 0));
        t.refuses("n is 4, and the script has 24 digits at most", Check.ARGUMENT,
                x -> x.runScript(4, 1_000_000_000_000_000_000L));

        t.of("`script`: the commands, a number of at most 6 * n digits (0 or more)");
        for (int commands = 1; commands <= 3; commands++) {
            int n = commands;
            long tooMany = (long) Math.pow(10, 6 * n);
            t.answers("n is " + n + ", the script 0", 0, Stores::rich, x -> x.runScript(n, 0));
            t.answers("n is " + n + ", as many digits as are allowed", 0, Stores::rich,
                    x -> x.runScript(n, tooMany - 1));
            t.refuses("n is " + n + ", one digit more", Check.ARGUMENT, x -> x.runScript(n, tooMany));
            t.refuses("n is " + n + ", one digit more, the commands would succeed", Check.ARGUMENT,
                    x -> x.runScript(n, 9 * tooMany + 800000));
            t.refuses("n is " + n + ", the script is -1", Check.ARGUMENT, x -> x.runScript(n, -1));
            t.refuses("n is " + n + ", the script is -800000", Check.ARGUMENT, x -> x.runScript(n, -800000));
            t.refuses("n is " + n + ", the least long", Check.ARGUMENT, x -> x.runScript(n, Long.MIN_VALUE));
            t.refuses("n is " + n + ", the greatest long", Check.ARGUMENT, x -> x.runScript(n, Long.MAX_VALUE));
            t.refuses("n is " + n + ", one digit more, and there is no store", Check.ARGUMENT, GapLines::new,
                    x -> x.runScript(n, tooMany));
        }
    }

    private static void order(Sentences t) {
        t.of("the first command is the highest group of the number (with zeros before it, if it has fewer digits)");
        runs(t, "the first of two succeeds", 2, 800000_800001L, 1);
        runs(t, "the first of two fails", 2, 800001_800000L, 0);
        runs(t, "one command alone of two: the first is 0 and fails", 2, 800000L, 0);
        runs(t, "two commands of three: the first is 0 and fails", 3, 800000_800000L, 0);
        runs(t, "one command of three that is the first", 3, 800000_000000_000000L, 1);
        runs(t, "a group of one digit", 1, 8, 0);
        runs(t, "a group of five digits", 1, 80000, 0);

        t.of("Returns the index, from 0, of the first command that fails; NONE if all succeed.");
        runs(t, "the only one", 1, 800001L, 0);
        runs(t, "the first of three", 3, 800001_800000_800000L, 0);
        runs(t, "the second of three", 3, 800000_800001_800000L, 1);
        runs(t, "the last of three", 3, 800000_800000_800001L, 2);
        runs(t, "the second and the last", 3, 800000_800001_800001L, 1);
        runs(t, "all of three", 3, 800001_800001_800001L, 0);
        runs(t, "none of one", 1, 800000L, -1);
        runs(t, "none of two", 2, 800000_800000L, -1);
        runs(t, "none of three", 3, 800000_800000_800000L, -1);
        runs(t, "what fails is not done, what is behind it neither", 3, 104000_500008_500008L, 0);

        t.of("Runs a script on a copy of the state.");
        runs(t, "the second command sees what the first has written", 2, 100999_500999L, -1);
        runs(t, "the last command sees what the first has written", 3, 100999_101000_500999L, -1);
        runs(t, "a command sees that the store is dead by the one before", 2, 200500_800001L, -1);
        runs(t, "a command fails as the store is dead by the one before", 2, 200500_100000L, 1);
        runs(t, "a command sees the setting 0 that is changed", 3, 409990_200500_800000L, -1);
        runs(t, "a command sees the setting 1 that is changed", 3, 410500_100001_900001L, -1);
        t.answers("the last command is done once: by it the store is dead", -1, () -> Stores.gapAtThree(0),
                x -> x.runScript(1, 100001));
        t.answers("a command behind that one fails", 1, () -> Stores.gapAtThree(0),
                x -> x.runScript(2, 100001_100001L));
        t.changesNothing("the state stays, though the copy dies", Stores::rich,
                x -> x.runScript(3, 409990_410500_200500L));
        t.changesNothing("the state stays, though the last command fails", Stores::rich,
                x -> x.runScript(3, 100999_300050_000000L));
        t.answers("a script begins with the state that there is, not with that of the last one", -1, Stores::rich,
                x -> {
                    x.runScript(2, 100999_200500L);
                    return x.runScript(2, 500008_800000L);
                });
    }

    private static void actions(Sentences t) {
        t.of("1 l l v v v: write(ll, vvv).");
        succeeds(t, "the line 0, the value 0", Stores::rich, 100000);
        succeeds(t, "the last line, the value 999", Stores::rich, 103999);
        succeeds(t, "the line 31", Edges24RunScript::great, 131999);
        fails(t, "the line n", Stores::rich, 104000);
        fails(t, "the line 32", Edges24RunScript::great, 132000);
        fails(t, "the line 99", Edges24RunScript::great, 199000);
        fails(t, "a dead store", Stores::dead, 100000);
        fails(t, "no store", GapLines::new, 100000);

        t.of("2 l l m m m: hammer(ll, mmm).");
        fails(t, "0 times", Stores::rich, 200000);
        succeeds(t, "once", Stores::rich, 200001);
        succeeds(t, "500 times, the last line", Stores::rich, 203500);
        fails(t, "501 times", Stores::rich, 200501);
        fails(t, "999 times", Stores::rich, 200999);
        fails(t, "the line n", Stores::rich, 204001);
        succeeds(t, "the line 31", Edges24RunScript::great, 231001);
        fails(t, "the line 32", Edges24RunScript::great, 232001);
        succeeds(t, "a dead store", Stores::dead, 200001);
        fails(t, "0 times of a dead store", Stores::dead, 200000);
        fails(t, "no store", GapLines::new, 200001);

        t.of("3 0 0 0 m m: all(mm).");
        fails(t, "0 times", Stores::rich, 300000);
        succeeds(t, "once", Stores::rich, 300001);
        succeeds(t, "50 times", Stores::rich, 300050);
        fails(t, "51 times", Stores::rich, 300051);
        fails(t, "another digit at the second place", Stores::rich, 310001);
        fails(t, "another digit at the third place", Stores::rich, 301001);
        fails(t, "another digit at the fourth place", Stores::rich, 300101);
        succeeds(t, "a dead store", Stores::dead, 300050);
        fails(t, "no store", GapLines::new, 300001);

        t.of("4 w v v v 0: set(w, vvv).");
        fails(t, "setting 0 is 4", Stores::rich, 400040);
        succeeds(t, "setting 0 is 5", Stores::rich, 400050);
        succeeds(t, "setting 0 is 999", Stores::rich, 409990);
        fails(t, "setting 1 is 0", Stores::rich, 410000);
        succeeds(t, "setting 1 is 1", Stores::rich, 410010);
        succeeds(t, "setting 1 is 50", Stores::rich, 410500);
        fails(t, "setting 1 is 51", Stores::rich, 410510);
        fails(t, "setting 2", Stores::rich, 420080);
        fails(t, "setting 9", Stores::rich, 490080);
        fails(t, "another digit at the last place, setting 0", Stores::rich, 400501);
        fails(t, "another digit at the last place, setting 1", Stores::rich, 410019);
        succeeds(t, "a dead store", Stores::dead, 409990);
        succeeds(t, "no store", GapLines::new, 409990);
    }

    private static void questions(Sentences t) {
        t.of("5 l l v v v: succeeds if the line ll has the value vvv.");
        succeeds(t, "it is that", Stores::rich, 500008);
        fails(t, "it is one more", Stores::rich, 500007);
        fails(t, "it is one less", Stores::rich, 500009);
        succeeds(t, "the last line", Stores::rich, 503009);
        succeeds(t, "a line that was never written", Stores::rich, 501000);
        fails(t, "the line n", Stores::rich, 504000);
        succeeds(t, "the line 31", Edges24RunScript::great, 531000);
        fails(t, "the line 32", Edges24RunScript::great, 532000);
        fails(t, "no store", GapLines::new, 500000);
        t.answers("the value 999", -1, Stores::calm, x -> {
            x.write(3, 999);
            return x.runScript(1, 503999);
        });

        t.of("6 l l 0 p p: succeeds if the line ll lies at the place pp.");
        succeeds(t, "the place 0", Stores::rich, 600000);
        succeeds(t, "the place n", Stores::rich, 603004);
        fails(t, "the gap", Stores::rich, 600001);
        fails(t, "the place of another line", Stores::rich, 600002);
        fails(t, "a place that does not exist", Stores::rich, 603005);
        fails(t, "another digit ahead of the place", Stores::rich, 603104);
        fails(t, "the line n", Stores::rich, 604004);
        succeeds(t, "the line 31 at the place 32", Edges24RunScript::great, 631032);
        fails(t, "the line 32", Edges24RunScript::great, 632032);
        fails(t, "the line 32 at the place 33", Edges24RunScript::great, 632033);
        fails(t, "no store", GapLines::new, 600000);

        t.of("7 p p w w w: succeeds if the wear of the place pp is at most www.");
        succeeds(t, "it is that", Stores::rich, 704003);
        succeeds(t, "it is one less", Stores::rich, 704004);
        fails(t, "it is one more", Stores::rich, 704002);
        succeeds(t, "it is 0, and the place is the gap", Stores::rich, 701000);
        succeeds(t, "999 is enough", Stores::rich, 704999);
        fails(t, "the place n + 1", Stores::rich, 705999);
        succeeds(t, "the place 32", Edges24RunScript::great, 732001);
        fails(t, "the place 33", Edges24RunScript::great, 733999);
        fails(t, "no store", GapLines::new, 700999);
        succeeds(t, "the worn medium of a dead store", Stores::dead, 700005);
        fails(t, "the worn medium of a dead store, one less", Stores::dead, 700004);

        t.of("8 0 0 0 0 b: succeeds if there is a store that is dead with b as 1, that is not with b as 0.");
        succeeds(t, "it lives, b is 0", Stores::rich, 800000);
        fails(t, "it lives, b is 1", Stores::rich, 800001);
        fails(t, "it is dead, b is 0", Stores::dead, 800000);
        succeeds(t, "it is dead, b is 1", Stores::dead, 800001);
        fails(t, "no store, b is 0", GapLines::new, 800000);
        fails(t, "no store, b is 1", GapLines::new, 800001);
        fails(t, "b is 2, it lives", Stores::rich, 800002);
        fails(t, "b is 2, it is dead", Stores::dead, 800002);
        fails(t, "b is 9, it is dead", Stores::dead, 800009);
        fails(t, "another digit at the second place", Stores::rich, 810000);
        fails(t, "another digit at the third place", Stores::rich, 801000);
        fails(t, "another digit at the fourth place", Stores::rich, 800100);
        fails(t, "another digit at the fifth place", Stores::rich, 800010);
        fails(t, "another digit at the fifth place, it is dead", Stores::dead, 800011);

        t.of("9 0 0 0 g g: succeeds if there is a store, and the gap is the place gg.");
        succeeds(t, "the gap is 0", () -> Stores.moved(4, 1, 4), 900000);
        succeeds(t, "the gap is n", () -> Stores.moved(4, 1, 5), 900004);
        succeeds(t, "the gap is 32", () -> Stores.calm(32), 900032);
        fails(t, "one less than the gap", Stores::rich, 900000);
        fails(t, "one more than the gap", Stores::rich, 900002);
        fails(t, "a place that does not exist", Stores::rich, 900005);
        fails(t, "no store", GapLines::new, 900000);
        fails(t, "another digit at the second place", Stores::rich, 910001);
        fails(t, "another digit at the third place", Stores::rich, 901001);
        fails(t, "another digit at the fourth place", Stores::rich, 900101);
        succeeds(t, "a dead store", Stores::dead, 900004);
    }

    private static void others(Sentences t) {
        t.of("The commands 1 to 4 fail if the method would throw an exception;");
        fails(t, "write(), as the store is dead", Stores::dead, 100008);
        fails(t, "hammer(), as there are too many", Stores::rich, 203501);
        fails(t, "all(), as there are too many", Stores::rich, 300099);
        fails(t, "set(), as the value is too small", Stores::rich, 400040);

        t.of("commands with lines or places that do not exist fail, and so does any other group"
                + " (also one with another digit where a 0 is written, or a b above 1).");
        fails(t, "zeros alone", Stores::rich, 0);
        fails(t, "the first digit is 0", Stores::rich, 99999);
        fails(t, "nines alone", Stores::rich, 999999);
        fails(t, "a command of a line without its first digit", Stores::rich, 8);
        fails(t, "the line 99", Stores::rich, 599000);
        fails(t, "the place 99", Stores::rich, 799999);
    }

    public static void main(String[] args) {
        Sentences t = new Sentences("Promise 24");
        numberAndScript(t);
        order(t);
        actions(t);
        questions(t);
        others(t);
        t.end();
    }
}
