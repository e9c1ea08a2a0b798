/** Promise 3. */
public final class Edges03ClearText {
    public static void main(String[] args) {
        Sentences t = new Sentences("Promise 3");
        t.of("Empties the text buffer.");
        t.answers("a story is none then", 0, () -> cleared(Check.text("L04010")), GapLines::errorPosition);
        t.answers("a full text takes 120 characters again", 120, () -> cleared(Stores.fullText()), x -> {
            Check.type(x, "L04010" + "a1".repeat(56) + "a");
            return x.append('1');
        });
        t.answers("what is appended begins a new text", -1, () -> cleared(Check.text("xxx")), x -> {
            for (char sign : "L04010".toCharArray()) {
                x.append(sign);
            }
            return x.errorPosition();
        });
        t.answers("the store stays", 7, () -> cleared(Stores.rich()), x -> x.about(4));

        t.of("Returns the previous length of the text.");
        t.answers("no text yet", 0, GapLines::new, GapLines::clearText);
        t.answers("one character", 1, () -> Check.text("L"), GapLines::clearText);
        t.answers("the text is full", 120, Stores::fullText, GapLines::clearText);
        t.answers("the text was emptied before", 0, () -> cleared(Check.text("L04010")), GapLines::clearText);
        t.end();
    }

    private static GapLines cleared(GapLines x) {
        x.clearText();
        return x;
    }
}
