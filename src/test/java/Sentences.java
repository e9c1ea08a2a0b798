import java.util.HashSet;
import java.util.Set;
import java.util.function.Supplier;

/**
 * Tests of single sentences of the document. Each test is named after its promise (or the part of the terms), the
 * sentence, and the boundary case that the sentence names; it has objects of its own, and fails for itself.
 */
final class Sentences {
    interface Body {
        void check(Check c);
    }

    interface On {
        long call(GapLines x);
    }

    interface OnNumber {
        long call(GapLines x, int number);
    }

    private final String heading;
    private final Set<String> names = new HashSet<>();
    private String sentence = "";
    private int failed;

    Sentences(String heading) {
        this.heading = heading;
    }

    /** The tests that follow are tests of this sentence. */
    void of(String itsWords) {
        sentence = itsWords;
    }

    void test(String edge, Body body) {
        String name = heading + ", \"" + sentence + "\": " + edge;
        Check c = new Check();
        if (sentence.isEmpty() || !names.add(name)) {
            c.tell("a test needs a name of its own");
        }
        try {
            body.check(c);
        } catch (RuntimeException e) {
            c.tell("a call beside the tested ones answered " + e);
        }
        if (!c.isRight()) {
            failed++;
            System.out.println("  failed: " + name);
        }
    }

    void answers(String edge, long due, Supplier<GapLines> made, On on) {
        test(edge, c -> {
            GapLines x = made.get();
            c.answers("the call", due, () -> on.call(x));
        });
    }

    /** The call on the rich store of Stores throws an exception of this very class, and changes nothing. */
    void refuses(String edge, Class<? extends RuntimeException> due, On on) {
        refuses(edge, due, Stores::rich, on);
    }

    void refuses(String edge, Class<? extends RuntimeException> due, Supplier<GapLines> made, On on) {
        test(edge, c -> {
            GapLines x = made.get();
            c.fails("the call", due, () -> on.call(x));
            c.same("everything behind it", Stores.whole(made.get()), Stores.whole(x));
        });
    }

    /** The call succeeds on the rich store, whatever it answers. */
    void allows(String edge, On on) {
        allows(edge, Stores::rich, on);
    }

    void allows(String edge, Supplier<GapLines> made, On on) {
        test(edge, c -> {
            String got = Check.outcome(() -> on.call(made.get()));
            if (got.endsWith("Exception")) {
                c.tell("the call answered " + got);
            }
        });
    }

    /** Which lines there are, for a call that has a line among its arguments. */
    void refusesLinesBeyond(OnNumber on) {
        refusesBeyond("line", 4, 32, on);
    }

    /** Which places there are: one more than lines. */
    void refusesPlacesBeyond(OnNumber on) {
        refusesBeyond("place", 5, 33, on);
    }

    private void refusesBeyond(String what, int few, int most, OnNumber on) {
        refuses("the " + what + " -1 does not exist", Check.INDEX, x -> on.call(x, -1));
        refuses("the last " + what + " of 4 lines, and one more", Check.INDEX, x -> on.call(x, few));
        refuses("the last " + what + " of 32 lines, and one more", Check.INDEX, () -> Stores.moved(32, 5, 3),
                x -> on.call(x, most));
        refuses("the least int is no " + what, Check.INDEX, x -> on.call(x, Integer.MIN_VALUE));
        refuses("the greatest int is no " + what, Check.INDEX, x -> on.call(x, Integer.MAX_VALUE));
        refuses("a dead store has no " + what + " more", Check.INDEX, Stores::dead, x -> on.call(x, few));
        refuses("no store yet: there is no " + what + " 0", Check.INDEX, GapLines::new, x -> on.call(x, 0));
        allows("the " + what + " 0 exists", x -> on.call(x, 0));
        allows("the last " + what + " of 4 lines exists", x -> on.call(x, few - 1));
        allows("the last " + what + " of 32 lines exists", () -> Stores.moved(32, 5, 3), x -> on.call(x, most - 1));
    }

    /** An argument that is no line: what lies beyond its range is refused, its least and greatest value are not. */
    void refusesBeyondRange(String name, int least, int most, OnNumber on) {
        refuses(name + " is " + (least - 1) + ", one too small", Check.ARGUMENT, x -> on.call(x, least - 1));
        refuses(name + " is " + (most + 1) + ", one too large", Check.ARGUMENT, x -> on.call(x, most + 1));
        refuses(name + " is the least int", Check.ARGUMENT, x -> on.call(x, Integer.MIN_VALUE));
        refuses(name + " is the greatest int", Check.ARGUMENT, x -> on.call(x, Integer.MAX_VALUE));
        allows(name + " is " + least + ", the least that is allowed", x -> on.call(x, least));
        allows(name + " is " + most + ", the greatest that is allowed", x -> on.call(x, most));
    }

    /** What is asked changes nothing, and is no action. */
    void changesNothing(String edge, Supplier<GapLines> made, On on) {
        test(edge, c -> {
            GapLines x = made.get();
            on.call(x);
            c.same("everything behind it", Stores.whole(made.get()), Stores.whole(x));
        });
    }

    void end() {
        if (names.isEmpty()) {
            System.out.println(heading + " has no tests");
            System.exit(1);
        }
        if (failed != 0) {
            System.out.println(failed + " of " + names.size() + " tests of " + heading + " failed");
            System.exit(1);
        }
    }
}
