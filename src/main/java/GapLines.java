/**
 * A store whose lines wear by writing, and a gap that wanders through all of them.
 * The document ../shared/DOC.md says what every call does.
 */
public final class GapLines {
    public static final int NONE = -1;

    private static final int MOST_NUMBERS = 11;
    private static final int MOST_SIGNS = 255;
    private static final int LEAST_LINES = 4;
    private static final int MOST_LINES = 32;
    private static final int MOST_SPARES = 4;
    private static final int MOST_VALUE = 999;
    private static final int MOST_HAMMERED = 500;
    private static final int MOST_ROUNDS = 50;
    private static final int LEAST_ENDURANCE = 5;
    private static final int MOST_ENDURANCE = 999;
    private static final int FIRST_ENDURANCE = 100;
    private static final int MOST_EVERY = 50;
    private static final int FIRST_EVERY = 8;
    private static final int LONGEST_LIFE = 2000;
    private static final int LONGEST_LIFE_OF_ALL = 4000;
    private static final int MOST_FURTHER_MOVES = 9999;
    private static final int MOST_COMMANDS = 3;
    private static final int COMMAND_UNIT = 1000000;
    private static final int MOST_SIMULATED = 300;

    private final Text text = new Text();
    private final State state = new State();
    /** What would be is tried here, so that no call has to make a state of its own. */
    private final State copy = new State();
    private final History history = new History();
    private final Slots slots = new Slots();

    public GapLines() {
    }

    // ---- text

    public int append(int c) throws IllegalArgumentException, IllegalStateException {
        if (c < 0 || c > MOST_SIGNS) {
            throw new IllegalArgumentException("no such character");
        }
        if (text.isFull()) {
            throw new IllegalStateException("the text is full");
        }
        return text.add((char) c);
    }

    public int clearText() {
        return text.empty();
    }

    public int errorPosition() {
        return text.firstError();
    }

    public int load() throws IllegalStateException {
        if (text.firstError() != NONE) {
            throw new IllegalStateException("the text is not a story");
        }
        history.forgetAll();
        slots.forgetAll();
        state.beginAnew();
        return text.tellTo(state);
    }

    // ---- what there is

    public int about(int what) throws IllegalArgumentException {
        if (what < 0 || what > MOST_NUMBERS) {
            throw new IllegalArgumentException("no such number");
        }
        return state.number(what);
    }

    public int read(int l) throws IndexOutOfBoundsException {
        requireLine(l);
        return state.valueOf(l);
    }

    public int place(int l) throws IndexOutOfBoundsException {
        requireLine(l);
        return state.placeOf(l);
    }

    public int line(int p) throws IndexOutOfBoundsException {
        requirePlace(p);
        return state.lineAt(p);
    }

    public int wear(int p) throws IndexOutOfBoundsException {
        requirePlace(p);
        return state.wearOf(p);
    }

    public int setting(int what) throws IllegalArgumentException {
        requireSetting(what);
        return state.settingOf(what);
    }

    // ---- actions

    public int make(int n, int key, int spares) throws IllegalArgumentException {
        if (!isShape(n, key)) {
            throw new IllegalArgumentException("no store has such lines and such a key");
        }
        if (spares < 0 || spares > MOST_SPARES) {
            throw new IllegalArgumentException("no store has so many spare media");
        }
        history.remember(state);
        state.begin(n, key, spares);
        return state.placeOf(1);
    }

    public int write(int l, int v)
            throws IndexOutOfBoundsException, IllegalArgumentException, IllegalStateException {
        requireLine(l);
        if (!isValue(v)) {
            throw new IllegalArgumentException("no such value");
        }
        if (state.dead) {
            throw new IllegalStateException("the store is dead");
        }
        history.remember(state);
        return state.writeLine(l, v);
    }

    public int hammer(int l, int m) throws IndexOutOfBoundsException, IllegalArgumentException {
        requireLine(l);
        requireHammered(m);
        history.remember(state);
        return state.hammerLine(l, m);
    }

    public int all(int m) throws IllegalArgumentException, IllegalStateException {
        if (!isRounds(m)) {
            throw new IllegalArgumentException("not 1 to 50 times");
        }
        requireStore();
        history.remember(state);
        return state.writeInTurn(m * state.lines);
    }

    public int set(int what, int v) throws IllegalArgumentException {
        if (!isSettingValue(what, v)) {
            throw new IllegalArgumentException("no such setting, or it has no such value");
        }
        history.remember(state);
        int previous = state.settingOf(what);
        state.changeSetting(what, v);
        return previous;
    }

    public int undo() throws IllegalStateException {
        if (!history.takeBack(state)) {
            throw new IllegalStateException("no state is remembered");
        }
        return history.size();
    }

    // ---- what would be; these and all following methods up to the save slots change nothing

    public int life(int l) throws IndexOutOfBoundsException {
        requireLine(l);
        copy.copyFrom(state);
        return copy.hammerLine(l, LONGEST_LIFE);
    }

    public int lifeOfAll() throws IllegalStateException {
        requireStore();
        copy.copyFrom(state);
        return copy.writeInTurn(LONGEST_LIFE_OF_ALL);
    }

    public int ifEvery(int l, int every, int m) throws IndexOutOfBoundsException, IllegalArgumentException {
        requireLine(l);
        if (every < 1 || every > MOST_EVERY) {
            throw new IllegalArgumentException("the setting has no such value");
        }
        requireHammered(m);
        return wearIfEvery(l, every, m);
    }

    public int bestEvery(int l, int m) throws IndexOutOfBoundsException, IllegalArgumentException {
        requireLine(l);
        requireHammered(m);
        int best = MOST_EVERY;
        int leastWear = wearIfEvery(l, best, m);
        for (int every = MOST_EVERY - 1; every >= 1; every--) {
            int wear = wearIfEvery(l, every, m);
            if (wear < leastWear) {
                leastWear = wear;
                best = every;
            }
        }
        return best;
    }

    public int movesTo(int l) throws IndexOutOfBoundsException {
        requireLine(l);
        return state.movesUntilMoved(l);
    }

    public int placeBehind(int l, int m) throws IndexOutOfBoundsException, IllegalArgumentException {
        requireLine(l);
        if (m < 0 || m > MOST_FURTHER_MOVES) {
            throw new IllegalArgumentException("not 0 to 9999 moves");
        }
        return state.placeAfterMoves(l, m);
    }

    // ---- scripts, simulations

    public int runScript(int n, long script) throws IllegalArgumentException {
        if (n < 1 || n > MOST_COMMANDS) {
            throw new IllegalArgumentException("not 1 to 3 commands");
        }
        if (script < 0 || withoutLastCommands(script, n) != 0) {
            throw new IllegalArgumentException("the script has too many digits or is negative");
        }
        copy.copyFrom(state);
        for (int index = 0; index < n; index++) {
            int command = (int) (withoutLastCommands(script, n - 1 - index) % COMMAND_UNIT);
            if (!Script.succeeds(copy, command)) {
                return index;
            }
        }
        return NONE;
    }

    public int simulate(long seed, int m) throws IllegalArgumentException {
        if (m < 1 || m > MOST_SIMULATED) {
            throw new IllegalArgumentException("not 1 to 300 writes");
        }
        if (!state.exists()) {
            return 0;
        }
        copy.copyFrom(state);
        copy.writeByChance(seed, m);
        return 1000 * (copy.moves - state.moves) + copy.greatestWear();
    }

    // ---- save slots

    public int save(int slot) throws IndexOutOfBoundsException {
        requireSlot(slot);
        slots.keep(slot, state);
        return state.writes;
    }

    public int restore(int slot) throws IndexOutOfBoundsException, IllegalStateException {
        requireSlot(slot);
        if (!slots.bringBack(slot, state)) {
            throw new IllegalStateException("nothing has been saved in this slot");
        }
        history.forgetAll();
        return state.writes;
    }

    // ---- what the calls ask for

    private void requireLine(int l) {
        if (!state.hasLine(l)) {
            throw new IndexOutOfBoundsException("no such line");
        }
    }

    private void requirePlace(int p) {
        if (!state.hasPlace(p)) {
            throw new IndexOutOfBoundsException("no such place");
        }
    }

    private void requireStore() {
        if (!state.exists()) {
            throw new IllegalStateException("there is no store");
        }
    }

    private static void requireSetting(int what) {
        if (what != 0 && what != 1) {
            throw new IllegalArgumentException("no such setting");
        }
    }

    private static void requireHammered(int m) {
        if (!isHammered(m)) {
            throw new IllegalArgumentException("not 1 to 500 times");
        }
    }

    private static void requireSlot(int slot) {
        if (!Slots.has(slot)) {
            throw new IndexOutOfBoundsException("no such save slot");
        }
    }

    private static boolean isShape(int n, int key) {
        return n >= LEAST_LINES && n <= MOST_LINES && key >= 1 && key < n && !haveCommonDivisor(n, key);
    }

    private static boolean haveCommonDivisor(int n, int key) {
        for (int divisor = 2; divisor <= key; divisor++) {
            if (n % divisor == 0 && key % divisor == 0) {
                return true;
            }
        }
        return false;
    }

    private static boolean isValue(int v) {
        return v >= 0 && v <= MOST_VALUE;
    }

    private static boolean isHammered(int m) {
        return m >= 1 && m <= MOST_HAMMERED;
    }

    private static boolean isRounds(int m) {
        return m >= 1 && m <= MOST_ROUNDS;
    }

    private static boolean isSettingValue(int what, int v) {
        if (what == 0) {
            return v >= LEAST_ENDURANCE && v <= MOST_ENDURANCE;
        }
        return what == 1 && v >= 1 && v <= MOST_EVERY;
    }

    private int wearIfEvery(int l, int every, int m) {
        copy.copyFrom(state);
        copy.every = every;
        copy.hammerLine(l, m);
        return copy.greatestWear();
    }

    private static long withoutLastCommands(long script, int commands) {
        long rest = script;
        for (int i = 0; i < commands; i++) {
            rest /= COMMAND_UNIT;
        }
        return rest;
    }

    /** The store, if there is one, and the settings: all that is remembered and saved. */
    private static final class State {
        /** 0 means that there is no store; all numbers but the settings are 0 then. */
        int lines;
        int key;
        int start;
        int gap;
        int spares;
        int writes;
        int moves;
        int writesSinceMove;
        int replaced;
        int laid;
        boolean dead;
        int endurance = FIRST_ENDURANCE;
        int every = FIRST_EVERY;
        final int[] values = new int[MOST_LINES];
        final int[] wears = new int[MOST_LINES + 1];

        void copyFrom(State other) {
            lines = other.lines;
            key = other.key;
            start = other.start;
            gap = other.gap;
            spares = other.spares;
            writes = other.writes;
            moves = other.moves;
            writesSinceMove = other.writesSinceMove;
            replaced = other.replaced;
            laid = other.laid;
            dead = other.dead;
            endurance = other.endurance;
            every = other.every;
            System.arraycopy(other.values, 0, values, 0, MOST_LINES);
            System.arraycopy(other.wears, 0, wears, 0, MOST_LINES + 1);
        }

        void beginAnew() {
            begin(0, 0, 0);
            endurance = FIRST_ENDURANCE;
            every = FIRST_EVERY;
        }

        void begin(int newLines, int newKey, int newSpares) {
            lines = newLines;
            key = newKey;
            start = 0;
            gap = newLines;
            spares = newSpares;
            writes = 0;
            moves = 0;
            writesSinceMove = 0;
            replaced = 0;
            laid = 0;
            dead = false;
            for (int l = 0; l < values.length; l++) {
                values[l] = 0;
            }
            for (int p = 0; p < wears.length; p++) {
                wears[p] = 0;
            }
        }

        boolean exists() {
            return lines > 0;
        }

        boolean hasLine(int l) {
            return l >= 0 && l < lines;
        }

        boolean hasPlace(int p) {
            return lines > 0 && p >= 0 && p <= lines;
        }

        int number(int what) {
            switch (what) {
                case 0: return lines;
                case 1: return start;
                case 2: return gap;
                case 3: return spares;
                case 4: return writes;
                case 5: return moves;
                case 6: return greatestWear();
                case 7: return leastWear();
                case 8: return writesSinceMove;
                case 9: return dead ? 1 : 0;
                case 10: return replaced;
                case 11: return laid;
                default: return 0;
            }
        }

        int greatestWear() {
            int greatest = wears[0];
            for (int p = 1; p <= lines; p++) {
                greatest = Math.max(greatest, wears[p]);
            }
            return greatest;
        }

        int leastWear() {
            int least = wears[0];
            for (int p = 1; p <= lines; p++) {
                least = Math.min(least, wears[p]);
            }
            return least;
        }

        int valueOf(int l) {
            return hasLine(l) ? values[l] : NONE;
        }

        int wearOf(int p) {
            return hasPlace(p) ? wears[p] : NONE;
        }

        int settingOf(int what) {
            return what == 0 ? endurance : every;
        }

        void changeSetting(int what, int v) {
            if (what == 0) {
                endurance = v;
            } else {
                every = v;
            }
        }

        /** The document's t: which of the places but the gap is the line's, if they are counted from 0. */
        int rankOf(int l, int ownStart) {
            return l >= 0 && l < lines ? (key * l + ownStart) % lines : NONE;
        }

        int placeOf(int l) {
            int rank = rankOf(l, start);
            return rank < gap ? rank : rank + 1;
        }

        int lineAt(int p) {
            if (p == gap) {
                return NONE;
            }
            int rank = p < gap ? p : p - 1;
            for (int l = 0; l < lines; l++) {
                if (rankOf(l, start) == rank) {
                    return l;
                }
            }
            return NONE;
        }

        int movesUntilMoved(int l) {
            int rank = rankOf(l, start);
            // Behind the gap, a line stays where it is while the gap goes round by the place 0:
            // the start is greater by 1 then, and the gap has left the line's place number free.
            return rank < gap ? gap - rank : gap + lines - rank;
        }

        int placeAfterMoves(int l, int m) {
            if (!hasLine(l)) {
                return NONE;
            }
            int movesFromTop = lines - gap + m;
            int newGap = lines - movesFromTop % (lines + 1);
            int newStart = (start + movesFromTop / (lines + 1)) % lines;
            int rank = rankOf(l, newStart);
            return rank < newGap ? rank : rank + 1;
        }

        int writeLine(int l, int v) {
            if (!hasLine(l)) {
                return NONE;
            }
            int previous = values[l];
            values[l] = v;
            layAt(placeOf(l));
            writes++;
            writesSinceMove++;
            if (!dead && writesSinceMove >= every) {
                moveGap();
            }
            return previous;
        }

        void moveGap() {
            layAt(gap);
            if (gap > 0) {
                gap--;
            } else {
                gap = lines;
                start = start + 1 < lines ? start + 1 : 0;
            }
            moves++;
            writesSinceMove = 0;
        }

        void layAt(int p) {
            if (p < 0 || p > lines) {
                return;
            }
            wears[p]++;
            laid++;
            if (wears[p] < endurance) {
                return;
            }
            if (spares == 0) {
                dead = true;
                return;
            }
            spares--;
            replaced++;
            wears[p] = 1;
            laid++;
        }

        int hammerLine(int l, int m) {
            int done = 0;
            while (done < m && !dead) {
                writeLine(l, valueOf(l));
                done++;
            }
            return done;
        }

        int writeInTurn(int m) {
            int done = 0;
            int l = 0;
            while (done < m && !dead) {
                writeLine(l, valueOf(l));
                done++;
                l = l + 1 < lines ? l + 1 : 0;
            }
            return done;
        }

        void writeByChance(long seed, int m) {
            if (!exists()) {
                return;
            }
            long x = seed;
            for (int i = 0; i < m; i++) {
                x = x * 6364136223846793005L + 1442695040888963407L;
                int r = (int) (x >>> 33);
                int l = r % 4 == 0 ? 0 : r / 4 % lines;
                if (!dead) {
                    writeLine(l, r / 128 % 1000);
                }
            }
        }

        // Commands of texts and scripts: each answers whether the method of that name would not throw.

        boolean doWrite(int l, int v) {
            if (!hasLine(l) || !isValue(v) || dead) {
                return false;
            }
            writeLine(l, v);
            return true;
        }

        boolean doHammer(int l, int m) {
            if (!hasLine(l) || !isHammered(m)) {
                return false;
            }
            hammerLine(l, m);
            return true;
        }

        boolean doAll(int m) {
            if (!isRounds(m) || !exists()) {
                return false;
            }
            writeInTurn(m * lines);
            return true;
        }

        boolean doSet(int what, int v) {
            if (!isSettingValue(what, v)) {
                return false;
            }
            changeSetting(what, v);
            return true;
        }
    }

    /** The commands of scripts, each a number of six digits. */
    private static final class Script {
        static boolean succeeds(State state, int command) {
            int digitsTwoThree = command / 1000 % 100;
            int lastThree = command % 1000;
            int lastFive = command % 100000;
            switch (command / 100000) {
                case 1: return state.doWrite(digitsTwoThree, lastThree);
                case 2: return state.doHammer(digitsTwoThree, lastThree);
                case 3: return state.doAll(lastFive);
                case 4: return lastFive % 10 == 0 && state.doSet(lastFive / 10000, lastFive / 10 % 1000);
                case 5: return state.hasLine(digitsTwoThree) && state.valueOf(digitsTwoThree) == lastThree;
                case 6: return state.hasLine(digitsTwoThree) && state.placeOf(digitsTwoThree) == lastThree;
                case 7: return state.hasPlace(digitsTwoThree) && state.wearOf(digitsTwoThree) <= lastThree;
                case 8: return state.exists() && lastFive == (state.dead ? 1 : 0);
                case 9: return state.exists() && lastFive == state.gap;
                default: return false;
            }
        }
    }

    /** The text buffer. */
    private static final class Text {
        private static final int MOST = 120;
        private static final int HEAD = 6;
        private static final int MOST_LINE_NUMBER = 31;

        private final char[] signs = new char[MOST];
        private int length;

        boolean isFull() {
            return length >= MOST;
        }

        int add(char sign) {
            if (!isFull()) {
                signs[length] = sign;
                length++;
            }
            return length;
        }

        int empty() {
            int previous = length;
            length = 0;
            return previous;
        }

        /** Answers the sign of number 0, which no story has, where the text has none. */
        private char signAt(int at) {
            return at >= 0 && at < length ? signs[at] : (char) 0;
        }

        int firstError() {
            int error = errorInHead();
            int next = HEAD;
            for (int at = HEAD; at < length && error == NONE; at++) {
                if (at == next) {
                    error = errorInCommand(at);
                    next = at + commandLength(at);
                }
            }
            return error;
        }

        private int errorInHead() {
            if (signAt(0) != 'L') {
                return 0;
            }
            int error = errorInNumber(1, 2, LEAST_LINES, MOST_LINES);
            if (error == NONE) {
                error = errorInNumber(3, 2, 1, MOST_LINES - 1);
            }
            if (error == NONE) {
                error = errorInNumber(5, 1, 0, MOST_SPARES);
            }
            return error;
        }

        private int errorInCommand(int at) {
            if (signAt(at) == 'a') {
                return errorInNumber(at + 1, 1, 1, 9);
            }
            if (signAt(at) != 'w' && signAt(at) != 'h') {
                return at;
            }
            int error = errorInNumber(at + 1, 2, 0, MOST_LINE_NUMBER);
            if (error != NONE) {
                return error;
            }
            return signAt(at) == 'w' ? errorInNumber(at + 3, 3, 0, MOST_VALUE) : errorInNumber(at + 3, 2, 1, 99);
        }

        private int commandLength(int at) {
            switch (signAt(at)) {
                case 'w': return 6;
                case 'h': return 5;
                default: return 2;
            }
        }

        /** A digit is wrong if no number from least to most begins with it and those before it. */
        private int errorInNumber(int from, int digits, int least, int most) {
            int begun = 0;
            int span = digits == 3 ? 1000 : digits == 2 ? 100 : 10;
            for (int i = 0; i < digits; i++) {
                char sign = signAt(from + i);
                if (sign < '0' || sign > '9') {
                    return from + i;
                }
                span /= 10;
                begun += (sign - '0') * span;
                if (begun > most || begun + span - 1 < least) {
                    return from + i;
                }
            }
            return NONE;
        }

        private int numberAt(int from, int digits) {
            int number = 0;
            for (int i = 0; i < digits; i++) {
                number = number * 10 + (signAt(from + i) - '0');
            }
            return number;
        }

        /** Does what the story tells, and answers how many commands are left out. */
        int tellTo(State state) {
            if (isShape(numberAt(1, 2), numberAt(3, 2))) {
                state.begin(numberAt(1, 2), numberAt(3, 2), numberAt(5, 1));
            }
            int leftOut = 0;
            int next = HEAD;
            for (int at = HEAD; at < length; at++) {
                if (at == next) {
                    next = at + commandLength(at);
                    boolean done;
                    switch (signAt(at)) {
                        case 'w': done = state.doWrite(numberAt(at + 1, 2), numberAt(at + 3, 3)); break;
                        case 'h': done = state.doHammer(numberAt(at + 1, 2), numberAt(at + 3, 2)); break;
                        default: done = state.doAll(numberAt(at + 1, 1)); break;
                    }
                    leftOut += done ? 0 : 1;
                }
            }
            return leftOut;
        }
    }

    /** The remembered states, in a ring: the oldest one gives its room to the newest. */
    private static final class History {
        private static final int MOST = 14;

        private final State[] states = new State[MOST];
        private int size;
        private int next;

        int size() {
            return size;
        }

        void forgetAll() {
            size = 0;
        }

        void remember(State present) {
            if (states[next] == null) {
                states[next] = new State();
            }
            states[next].copyFrom(present);
            next = next + 1 < MOST ? next + 1 : 0;
            size = Math.min(size + 1, MOST);
        }

        boolean takeBack(State present) {
            int last = next > 0 ? next - 1 : MOST - 1;
            if (size == 0 || states[last] == null) {
                return false;
            }
            present.copyFrom(states[last]);
            next = last;
            size--;
            return true;
        }
    }

    /** The save slots. */
    private static final class Slots {
        private static final int COUNT = 2;

        private final State[] states = new State[COUNT];
        private final boolean[] filled = new boolean[COUNT];

        static boolean has(int slot) {
            return slot >= 0 && slot < COUNT;
        }

        void forgetAll() {
            for (int slot = 0; slot < COUNT; slot++) {
                filled[slot] = false;
            }
        }

        void keep(int slot, State present) {
            if (!has(slot)) {
                return;
            }
            if (states[slot] == null) {
                states[slot] = new State();
            }
            states[slot].copyFrom(present);
            filled[slot] = true;
        }

        boolean bringBack(int slot, State present) {
            if (!has(slot) || !filled[slot] || states[slot] == null) {
                return false;
            }
            present.copyFrom(states[slot]);
            return true;
        }
    }
}
