public final class P03ClearText {
    public static void main(String[] args) {
        Check c = new Check();
        GapLines x = Check.text("L04010");
        c.answers("clearText()", 6, x::clearText);
        c.answers("clearText() again", 0, x::clearText);
        c.answers("errorPosition() of no text", 0, x::errorPosition);
        c.answers("append(76)", 1, () -> x.append('L'));
        c.answers("the old text is gone", 1, x::errorPosition);
        GapLines y = Check.example();
        c.answers("clearText() with a store", 0, y::clearText);
        c.same("the store", Check.EXAMPLE, Check.seen(y));
        c.end();
    }
}
