import java.util.ArrayList;
import java.util.List;
import java.util.Random;

/** Runs of 512 calls with fixed seeds, each answer compared with the one of Model. */
public final class RandomRuns {
    private static final int RUNS = 400;
    private static final int CALLS = 512;

    private final Check c;
    private final Random random;
    private final GapLines x = new GapLines();
    private final Model y = new Model();
    private final int run;
    private final boolean wild;

    private RandomRuns(Check c, int run) {
        this.c = c;
        this.run = run;
        this.random = new Random(run);
        this.wild = run % 4 == 0;
    }

    /** A number from a little below least to a little above most; in wild runs any now and then. */
    private int from(int least, int most) {
        int kind = random.nextInt(wild ? 8 : 24);
        switch (kind) {
            case 0: return least - random.nextInt(2);
            case 1: return most + random.nextInt(2);
            case 2: return wild ? random.nextInt() : least;
            case 3: return wild ? (random.nextBoolean() ? Integer.MAX_VALUE : Integer.MIN_VALUE) : most;
            default: return least + random.nextInt(most - least + 1);
        }
    }

    private int few(int least, int most) {
        return random.nextInt(3) == 0 ? from(least, most) : from(least, least + (most - least) / 20 + 1);
    }

    private int aLine() {
        int n = x.about(0);
        return random.nextInt(40) == 0 ? from(0, 31) : from(0, Math.max(n - 1, 0));
    }

    private void both(String call, Check.Call one, Check.Call other) {
        String got = Check.outcome(one);
        String due = Check.outcome(other);
        if (!got.equals(due)) {
            c.tell("run " + run + ": " + call + " answered " + got + ", due is " + due);
        }
    }

    private void textCall() {
        if (random.nextInt(3) == 0) {
            both("clearText()", x::clearText, y::clearText);
            for (char sign : aText().toCharArray()) {
                both("append", () -> x.append(sign), () -> y.append(sign));
            }
        } else if (random.nextInt(3) == 0) {
            int sign = from(0, 255);
            both("append(" + sign + ")", () -> x.append(sign), () -> y.append(sign));
        }
        both("errorPosition()", x::errorPosition, y::errorPosition);
        if (random.nextInt(2) == 0) {
            both("load()", x::load, y::load);
        }
    }

    private String number(int digits, int below) {
        String s = "000" + random.nextInt(below);
        return s.substring(s.length() - digits);
    }

    private String aText() {
        StringBuilder s = new StringBuilder("L");
        s.append(number(2, random.nextInt(5) == 0 ? 36 : 33)).append(number(2, random.nextInt(3) == 0 ? 33 : 10));
        s.append(random.nextInt(5));
        int length = 6 + random.nextInt(115);
        while (s.length() < length) {
            int kind = random.nextInt(60);
            if (kind < 20) {
                s.append('w').append(number(2, random.nextInt(20) == 0 ? 34 : 12)).append(number(3, 1000));
            } else if (kind < 45) {
                s.append('h').append(number(2, random.nextInt(20) == 0 ? 34 : 12)).append(number(2, 100));
            } else if (kind < 59) {
                s.append('a').append(random.nextInt(20) == 0 ? 0 : 1 + random.nextInt(9));
            } else {
                s.append((char) random.nextInt(128));
            }
        }
        if (random.nextInt(3) == 0) {
            s.setLength(random.nextInt(s.length() + 1));
        }
        if (random.nextInt(6) == 0 && s.length() > 0) {
            s.setCharAt(random.nextInt(s.length()), "0123456789Lwha x".charAt(random.nextInt(16)));
        }
        return s.substring(0, Math.min(s.length(), 120));
    }

    private void seeing() {
        int what = from(0, 11);
        int l = aLine();
        int p = random.nextInt(2) == 0 ? x.about(0) : aLine();
        int setting = from(0, 1);
        both("about(" + what + ")", () -> x.about(what), () -> y.about(what));
        both("read(" + l + ")", () -> x.read(l), () -> y.read(l));
        both("place(" + l + ")", () -> x.place(l), () -> y.place(l));
        both("line(" + p + ")", () -> x.line(p), () -> y.line(p));
        both("wear(" + p + ")", () -> x.wear(p), () -> y.wear(p));
        both("setting(" + setting + ")", () -> x.setting(setting), () -> y.setting(setting));
    }

    private void action() {
        int l = aLine();
        int kind = random.nextInt(100);
        if (kind < 8) {
            int n = from(4, 32);
            int key = from(1, 31);
            int spares = from(0, 4);
            both("make(" + n + ", " + key + ", " + spares + ")", () -> x.make(n, key, spares),
                    () -> y.make(n, key, spares));
        } else if (kind < 40) {
            int v = from(0, 999);
            both("write(" + l + ", " + v + ")", () -> x.write(l, v), () -> y.write(l, v));
        } else if (kind < 60) {
            int m = few(1, 500);
            both("hammer(" + l + ", " + m + ")", () -> x.hammer(l, m), () -> y.hammer(l, m));
        } else if (kind < 70) {
            int m = few(1, 50);
            both("all(" + m + ")", () -> x.all(m), () -> y.all(m));
        } else if (kind < 80) {
            int v = random.nextInt(3) == 0 ? from(5, 999) : from(5, 60);
            both("set(0, " + v + ")", () -> x.set(0, v), () -> y.set(0, v));
        } else if (kind < 86) {
            int what = from(0, 1);
            int v = few(1, 50);
            both("set(" + what + ", " + v + ")", () -> x.set(what, v), () -> y.set(what, v));
        } else {
            int times = 1 + random.nextInt(random.nextInt(10) == 0 ? 16 : 2);
            for (int i = 0; i < times; i++) {
                both("undo()", x::undo, y::undo);
            }
        }
    }

    private void whatWouldBe() {
        int l = aLine();
        int every = from(1, 50);
        int m = from(1, 500);
        int moves = from(0, 9999);
        switch (random.nextInt(6)) {
            case 0: both("life(" + l + ")", () -> x.life(l), () -> y.life(l)); break;
            case 1: both("lifeOfAll()", x::lifeOfAll, y::lifeOfAll); break;
            case 2:
                both("ifEvery(" + l + ", " + every + ", " + m + ")", () -> x.ifEvery(l, every, m),
                        () -> y.ifEvery(l, every, m));
                break;
            case 3:
                if (random.nextInt(4) == 0) {
                    both("bestEvery(" + l + ", " + m + ")", () -> x.bestEvery(l, m), () -> y.bestEvery(l, m));
                }
                break;
            case 4: both("movesTo(" + l + ")", () -> x.movesTo(l), () -> y.movesTo(l)); break;
            default:
                both("placeBehind(" + l + ", " + moves + ")", () -> x.placeBehind(l, moves),
                        () -> y.placeBehind(l, moves));
                break;
        }
    }

    private long aCommand() {
        int l = Math.floorMod(aLine(), 100);
        int v = random.nextInt(4) == 0 ? random.nextInt(1000) : random.nextInt(30);
        if (random.nextInt(12) == 0) {
            return random.nextInt(1000000);
        }
        switch (1 + random.nextInt(9)) {
            case 1: return 100000 + 1000 * l + v;
            case 2: return 200000 + 1000 * l + v;
            case 3: return 300000 + v % 55;
            case 4: return 400000 + 10000 * random.nextInt(3) + 10 * v + (random.nextInt(9) == 0 ? 1 : 0);
            case 5: return 500000 + 1000 * l + (l < x.about(0) ? x.read(l) : v);
            case 6: return 600000 + 1000 * l + (l < x.about(0) ? x.place(l) : v) + (random.nextInt(9) == 0 ? 100 : 0);
            case 7: return 700000 + 1000 * l + (l < x.about(0) ? x.wear(l) - random.nextInt(2) : v);
            case 8: return 800000 + random.nextInt(3);
            default: return 900000 + x.about(2) - random.nextInt(2) * random.nextInt(2);
        }
    }

    private void scripts() {
        int n = from(1, 3);
        long script = random.nextInt(30) == 0 ? random.nextLong() : 0;
        if (script == 0) {
            for (int k = 0; k < Math.min(Math.max(n, 1), 3); k++) {
                script = script * 1000000 + aCommand();
            }
        }
        long whole = script;
        both("runScript(" + n + ", " + script + ")", () -> x.runScript(n, whole), () -> y.runScript(n, whole));
        long seed = random.nextLong();
        int m = from(1, 300);
        both("simulate(" + seed + ", " + m + ")", () -> x.simulate(seed, m), () -> y.simulate(seed, m));
    }

    private void slots() {
        int slot = from(0, 1);
        if (random.nextInt(3) > 0) {
            both("save(" + slot + ")", () -> x.save(slot), () -> y.save(slot));
        } else {
            both("restore(" + slot + ")", () -> x.restore(slot), () -> y.restore(slot));
        }
    }

    private void go() {
        for (int call = 0; call < CALLS; call++) {
            int kind = random.nextInt(100);
            if (kind < 2) {
                textCall();
            } else if (kind < 25) {
                seeing();
            } else if (kind < 75) {
                action();
            } else if (kind < 85) {
                whatWouldBe();
            } else if (kind < 96) {
                scripts();
            } else {
                slots();
            }
            String due = seenOf(y);
            String got = Check.seen(x);
            if (!got.equals(due)) {
                c.same("the state of run " + run, due, got);
                return;
            }
        }
    }

    private static String seenOf(Model y) {
        List<String> s = new ArrayList<>();
        s.add("about");
        for (int what = 0; what <= 11; what++) {
            s.add("" + y.about(what));
        }
        s.add("settings " + y.setting(0) + " " + y.setting(1) + " lines");
        for (int l = 0; l < y.about(0); l++) {
            s.add(y.read(l) + "@" + y.place(l));
        }
        s.add("places");
        for (int p = 0; y.about(0) > 0 && p <= y.about(0); p++) {
            s.add(y.line(p) + "/" + y.wear(p));
        }
        return String.join(" ", s);
    }

    public static void main(String[] args) {
        Check c = new Check();
        for (int run = 0; run < RUNS; run++) {
            new RandomRuns(c, run).go();
        }
        c.end();
    }
}
