/** Promise 2. */
public final class Edges02Append {
    private static GapLines typed(int characters) {
        return Check.text("x".repeat(characters));
    }

    public static void main(String[] args) {
        Sentences t = new Sentences("Promise 2");
        t.of("`c`: character code, 0 to 255");
        t.refusesBeyondRange("c", 0, 255, GapLines::append);

        t.of("Returns the new length of the text.");
        t.answers("the text was empty", 1, GapLines::new, x -> x.append('L'));
        t.answers("the text had 118 characters", 119, () -> typed(118), x -> x.append('x'));
        t.answers("the text had 119 characters", 120, () -> typed(119), x -> x.append('x'));
        t.answers("the text was emptied", 1, () -> {
            GapLines x = typed(120);
            x.clearText();
            return x;
        }, x -> x.append('x'));
        t.answers("the character 0 counts", 3, () -> Check.text("\0\0"), x -> x.append(0));

        t.of("Throws `IllegalArgumentException` if c is out of range");
        t.refuses("the text is empty", Check.ARGUMENT, GapLines::new, x -> x.append(256));
        t.refuses("the text is full: c is tested first", Check.ARGUMENT, () -> typed(120), x -> x.append(256));
        t.refuses("the text is full, and c is -1", Check.ARGUMENT, () -> typed(120), x -> x.append(-1));

        t.of("Throws `IllegalStateException` if the text already has 120 characters");
        t.refuses("the text has 120 characters", Check.STATE, () -> typed(120), x -> x.append('x'));
        t.refuses("c is the least that is allowed", Check.STATE, () -> typed(120), x -> x.append(0));
        t.refuses("c is the greatest that is allowed", Check.STATE, () -> typed(120), x -> x.append(255));
        t.refuses("the text is a story", Check.STATE, Stores::fullText, x -> x.append('a'));
        t.answers("the text has 119 characters", 120, () -> typed(119), x -> x.append(255));
        t.end();
    }
}
