/** Promise 4; which texts are stories is tested by EdgesText. */
public final class Edges04ErrorPosition {
    public static void main(String[] args) {
        Sentences t = new Sentences("Promise 4");
        t.of("Returns the error position of the text; NONE if it is a story.");
        t.answers("no text", 0, GapLines::new, GapLines::errorPosition);
        t.answers("the first character is wrong", 0, () -> Check.text("l"), GapLines::errorPosition);
        t.answers("the text ends too soon by one character", 5, () -> Check.text("L0401"), GapLines::errorPosition);
        t.answers("the least story", GapLines.NONE, () -> Check.text("L04010"), GapLines::errorPosition);
        t.answers("one character more than a story", 6, () -> Check.text("L040100"), GapLines::errorPosition);
        t.answers("a full story", GapLines.NONE, Stores::fullText, GapLines::errorPosition);
        t.answers("a full text, the last character is wrong", 119,
                () -> Check.text("L04010" + "a1".repeat(56) + "ax"), GapLines::errorPosition);
        t.answers("a full text that ends too soon", 120, () -> Check.text("L04010" + "h0001".repeat(22) + "w000"),
                GapLines::errorPosition);
        t.changesNothing("of a story, it changes nothing", Stores::fullText, GapLines::errorPosition);
        t.changesNothing("of no story, it changes nothing", Stores::rich, GapLines::errorPosition);
        t.end();
    }
}
