import java.util.ArrayDeque;
import java.util.ArrayList;
import java.util.Arrays;
import java.util.Deque;
import java.util.List;
import java.util.regex.Matcher;
import java.util.regex.Pattern;

/**
 * A second program for the same document, made in another way: its lines lie in places that are an array, and a move of
 * the gap moves a line in it. RandomRuns compares the two.
 */
final class Model {
    private static final Pattern STORY = Pattern.compile("L(0[4-9]|[12][0-9]|3[0-2])(0[1-9]|[12][0-9]|3[01])[0-4]"
            + "(w([012][0-9]|3[01])[0-9]{3}|h([012][0-9]|3[01])(0[1-9]|[1-9][0-9])|a[1-9])*");
    private static final Pattern COMMAND = Pattern.compile("w[0-9]{5}|h[0-9]{4}|a[0-9]");

    private static final class World implements Cloneable {
        int[] lineAt = new int[0];
        int[] wear = new int[0];
        int[] value = new int[0];
        int[] settings = {100, 8};
        int key;
        int start;
        int spares;
        int writes;
        int moves;
        int since;
        int replaced;
        int laid;
        boolean dead;

        int n() {
            return value.length;
        }

        World twin() {
            try {
                World w = (World) super.clone();
                w.lineAt = lineAt.clone();
                w.wear = wear.clone();
                w.value = value.clone();
                w.settings = settings.clone();
                return w;
            } catch (CloneNotSupportedException e) {
                throw new AssertionError(e);
            }
        }

        int find(int what) {
            for (int p = 0; p < lineAt.length; p++) {
                if (lineAt[p] == what) {
                    return p;
                }
            }
            throw new AssertionError();
        }

        void lay(int p) {
            laid++;
            if (++wear[p] >= settings[0]) {
                if (spares == 0) {
                    dead = true;
                } else {
                    spares--;
                    replaced++;
                    laid++;
                    wear[p] = 1;
                }
            }
        }

        void shift() {
            int gap = find(-1);
            int from = gap == 0 ? n() : gap - 1;
            lineAt[gap] = lineAt[from];
            lineAt[from] = -1;
            if (gap == 0) {
                start = (start + 1) % n();
            }
        }

        int write(int l, int v) {
            int old = value[l];
            value[l] = v;
            lay(find(l));
            writes++;
            since++;
            if (!dead && since >= settings[1]) {
                lay(find(-1));
                shift();
                moves++;
                since = 0;
            }
            return old;
        }

        int hammer(int l, int m) {
            int before = writes;
            for (int i = 0; i < m; i++) {
                if (!dead) {
                    write(l, value[l]);
                }
            }
            return writes - before;
        }

        int turns(int count) {
            int before = writes;
            for (int i = 0; i < count; i++) {
                if (!dead) {
                    write(i % n(), value[i % n()]);
                }
            }
            return writes - before;
        }

        int most() {
            return Arrays.stream(wear).max().orElse(0);
        }
    }

    private World world = new World();
    private final StringBuilder text = new StringBuilder();
    private final Deque<World> remembered = new ArrayDeque<>();
    private final World[] slots = new World[2];

    private void remember() {
        remembered.addLast(world.twin());
        if (remembered.size() > 14) {
            remembered.removeFirst();
        }
    }

    private void argument(boolean right) {
        if (!right) {
            throw new IllegalArgumentException();
        }
    }

    private void state(boolean right) {
        if (!right) {
            throw new IllegalStateException();
        }
    }

    private void index(boolean right) {
        if (!right) {
            throw new IndexOutOfBoundsException();
        }
    }

    private static boolean in(long v, long least, long most) {
        return v >= least && v <= most;
    }

    private void line0(int l) {
        index(in(l, 0, world.n() - 1));
    }

    int append(int c) {
        argument(in(c, 0, 255));
        state(text.length() < 120);
        text.append((char) c);
        return text.length();
    }

    int clearText() {
        int old = text.length();
        text.setLength(0);
        return old;
    }

    int errorPosition() {
        if (STORY.matcher(text).matches()) {
            return -1;
        }
        for (int i = 0; i < text.length(); i++) {
            Matcher m = STORY.matcher(text.substring(0, i + 1));
            if (!m.matches() && !m.hitEnd()) {
                return i;
            }
        }
        return text.length();
    }

    int load() {
        state(errorPosition() == -1);
        world = new World();
        Arrays.fill(slots, null);
        String head = text.substring(1, 6);
        attempt(() -> make(Integer.parseInt(head.substring(0, 2)), Integer.parseInt(head.substring(2, 4)),
                Integer.parseInt(head.substring(4))));
        int out = 0;
        Matcher m = COMMAND.matcher(text.substring(6));
        while (m.find()) {
            String c = m.group();
            boolean done;
            if (c.charAt(0) == 'a') {
                done = attempt(() -> all(Integer.parseInt(c.substring(1))));
            } else {
                int l = Integer.parseInt(c.substring(1, 3));
                int v = Integer.parseInt(c.substring(3));
                done = attempt(() -> c.charAt(0) == 'w' ? write(l, v) : hammer(l, v));
            }
            out += done ? 0 : 1;
        }
        remembered.clear();
        return out;
    }

    private static boolean attempt(Check.Call call) {
        try {
            call.answer();
            return true;
        } catch (IndexOutOfBoundsException | IllegalArgumentException | IllegalStateException e) {
            return false;
        }
    }

    int about(int what) {
        argument(in(what, 0, 11));
        if (world.n() == 0) {
            return 0;
        }
        int[] numbers = {world.n(), world.start, world.find(-1), world.spares, world.writes, world.moves, world.most(),
            Arrays.stream(world.wear).min().getAsInt(), world.since, world.dead ? 1 : 0, world.replaced, world.laid};
        return numbers[what];
    }

    int read(int l) {
        line0(l);
        return world.value[l];
    }

    int place(int l) {
        line0(l);
        return world.find(l);
    }

    int line(int p) {
        index(world.n() > 0 && in(p, 0, world.n()));
        return world.lineAt[p];
    }

    int wear(int p) {
        index(world.n() > 0 && in(p, 0, world.n()));
        return world.wear[p];
    }

    int setting(int what) {
        argument(in(what, 0, 1));
        return world.settings[what];
    }

    int make(int n, int key, int spares) {
        argument(in(n, 4, 32));
        argument(in(key, 1, n - 1));
        int a = n;
        int b = key;
        while (b != 0) {
            int c = a % b;
            a = b;
            b = c;
        }
        argument(a == 1);
        argument(in(spares, 0, 4));
        remember();
        World w = new World();
        w.settings = world.settings.clone();
        w.key = key;
        w.spares = spares;
        w.value = new int[n];
        w.wear = new int[n + 1];
        w.lineAt = new int[n + 1];
        for (int l = 0; l < n; l++) {
            w.lineAt[l * key % n] = l;
        }
        w.lineAt[n] = -1;
        world = w;
        return w.find(1);
    }

    int write(int l, int v) {
        line0(l);
        argument(in(v, 0, 999));
        state(!world.dead);
        remember();
        return world.write(l, v);
    }

    int hammer(int l, int m) {
        line0(l);
        argument(in(m, 1, 500));
        remember();
        return world.hammer(l, m);
    }

    int all(int m) {
        argument(in(m, 1, 50));
        state(world.n() > 0);
        remember();
        return world.turns(m * world.n());
    }

    int set(int what, int v) {
        argument(what == 0 ? in(v, 5, 999) : what == 1 && in(v, 1, 50));
        remember();
        int old = world.settings[what];
        world.settings[what] = v;
        return old;
    }

    int undo() {
        state(!remembered.isEmpty());
        world = remembered.removeLast();
        return remembered.size();
    }

    int life(int l) {
        line0(l);
        return world.twin().hammer(l, 2000);
    }

    int lifeOfAll() {
        state(world.n() > 0);
        return world.twin().turns(4000);
    }

    int ifEvery(int l, int every, int m) {
        line0(l);
        argument(in(every, 1, 50));
        argument(in(m, 1, 500));
        World w = world.twin();
        w.settings[1] = every;
        w.hammer(l, m);
        return w.most();
    }

    int bestEvery(int l, int m) {
        line0(l);
        argument(in(m, 1, 500));
        List<Integer> wears = new ArrayList<>();
        for (int every = 1; every <= 50; every++) {
            wears.add(ifEvery(l, every, m));
        }
        return wears.lastIndexOf(wears.stream().min(Integer::compare).get()) + 1;
    }

    int movesTo(int l) {
        line0(l);
        World w = world.twin();
        int moves = 0;
        while (w.find(l) == world.find(l)) {
            w.shift();
            moves++;
        }
        return moves;
    }

    int placeBehind(int l, int m) {
        line0(l);
        argument(in(m, 0, 9999));
        World w = world.twin();
        for (int i = 0; i < m; i++) {
            w.shift();
        }
        return w.find(l);
    }

    int runScript(int n, long script) {
        argument(in(n, 1, 3));
        argument(script >= 0 && Long.toString(script).length() <= 6 * n);
        String digits = "0".repeat(6 * n - Long.toString(script).length()) + script;
        Model m = new Model();
        m.world = world.twin();
        for (int i = 0; i < n; i++) {
            String g = digits.substring(6 * i, 6 * i + 6);
            if (!attempt(() -> m.command(g))) {
                return i;
            }
        }
        return -1;
    }

    /** Throws if the command fails. */
    private int command(String g) {
        int ll = Integer.parseInt(g.substring(1, 3));
        int last = Integer.parseInt(g.substring(3));
        int two = Integer.parseInt(g.substring(4));
        switch (g.charAt(0)) {
            case '1': return write(ll, last);
            case '2': return hammer(ll, last);
            case '3': argument(g.startsWith("3000")); return all(two);
            case '4': argument(g.endsWith("0")); return set(g.charAt(1) - '0', Integer.parseInt(g.substring(2, 5)));
            case '5': argument(read(ll) == last); return 0;
            case '6': argument(g.charAt(3) == '0' && place(ll) == two); return 0;
            case '7': argument(wear(ll) <= last); return 0;
            case '8': argument(world.n() > 0 && g.equals("80000" + about(9))); return 0;
            case '9': argument(world.n() > 0 && g.startsWith("9000") && about(2) == two); return 0;
            default: throw new IllegalArgumentException();
        }
    }

    int simulate(long seed, int m) {
        argument(in(m, 1, 300));
        if (world.n() == 0) {
            return 0;
        }
        World w = world.twin();
        long x = seed;
        for (int i = 0; i < m; i++) {
            x = x * 6364136223846793005L + 1442695040888963407L;
            int r = (int) (x >>> 33);
            int l = r % 4 == 0 ? 0 : r / 4 % w.n();
            if (!w.dead) {
                w.write(l, r / 128 % 1000);
            }
        }
        return 1000 * (w.moves - world.moves) + w.most();
    }

    int save(int slot) {
        index(in(slot, 0, 1));
        slots[slot] = world.twin();
        return world.writes;
    }

    int restore(int slot) {
        index(in(slot, 0, 1));
        state(slots[slot] != null);
        world = slots[slot].twin();
        remembered.clear();
        return world.writes;
    }
}
