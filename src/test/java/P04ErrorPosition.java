public final class P04ErrorPosition {
    private static final Check C = new Check();

    private static void due(String text, int position) {
        GapLines x = Check.text(text);
        C.answers("errorPosition() of \"" + text + "\"", position, x::errorPosition);
    }

    private static void head() {
        due("", 0);
        due("l", 0);
        due(" L04010", 0);
        due("\0", 0);
        due("L", 1);
        due("L4", 1);
        due("L/", 1);
        due("L:", 1);
        due("L\u00b2", 1);
        due("L0", 2);
        due("L00", 2);
        due("L03", 2);
        due("L04", 3);
        due("L0x", 2);
        due("L19", 3);
        due("L32", 3);
        due("L33", 2);
        due("L040", 4);
        due("L0400", 4);
        due("L0401", 5);
        due("L0430", 5);
        due("L0431", 5);
        due("L0432", 4);
        due("L044", 3);
        due("L0401x", 5);
        due("L04015", 5);
        due("L04010", -1);
        due("L32314", -1);
        due("L04020", -1);
        due("L04310", -1);
        due("L20293", -1);
    }

    private static void command(String command, int position) {
        due("L06051" + command, position < 0 ? position : 6 + position);
        due("L06051a9w31000h0901" + command, position < 0 ? position : 19 + position);
    }

    private static void commands() {
        command(" ", 0);
        command("x", 0);
        command("L", 0);
        command("1", 0);
        command("W00000", 0);
        command("w", 1);
        command("w4", 1);
        command("w3", 2);
        command("w31", 3);
        command("w32", 2);
        command("w00", 3);
        command("w0000", 5);
        command("w00000", -1);
        command("w29999", -1);
        command("w0000a", 5);
        command("w0000:", 5);
        command("w00/", 3);
        command("w000000", 6);
        command("h", 1);
        command("h4", 1);
        command("h32", 2);
        command("h31", 3);
        command("h310", 4);
        command("h3100", 4);
        command("h3101", -1);
        command("h0010", -1);
        command("h0099", -1);
        command("h00990", 5);
        command("a", 1);
        command("a0", 1);
        command("a1", -1);
        command("a9", -1);
        command("ax", 1);
        command("a11", 2);
        command("a1 ", 2);
        command("w00000h0101a1", -1);
        command("w00000h0101a1L", 13);
    }

    public static void main(String[] args) {
        head();
        commands();
        String full = "L04010" + "w00999".repeat(19);
        due(full, -1);
        due(full.substring(0, 119), 119);
        String cut = "L04010" + "h0001".repeat(22) + "w001";
        due(cut, 120);
        GapLines x = Check.example();
        Check.type(x, "L05010a1");
        C.answers("errorPosition()", -1, x::errorPosition);
        C.same("it changes nothing", Check.EXAMPLE, Check.seen(x));
        C.end();
    }
}
