/** "Terms", TEXT. */
public final class EdgesText {
    private static final int STORY = -1;

    private static void due(Sentences t, String edge, String text, int position) {
        t.answers(edge, position, () -> Check.text(text), GapLines::errorPosition);
    }

    private static void leftOut(Sentences t, String edge, String text, int commands) {
        t.answers(edge, commands, () -> Check.text(text), GapLines::load);
    }

    private static void head(Sentences t) {
        t.of("The object has a text buffer of at most 120 characters.");
        t.answers("the character 120 has a place", 120, () -> Check.text("x".repeat(119)), x -> x.append('x'));
        t.refuses("the character 121 has none", Check.STATE, Stores::fullText, x -> x.append('x'));
        due(t, "a story of 120 characters", "L04010" + "w00999".repeat(19), STORY);

        t.of("A story as a text is the letter L");
        due(t, "the letter before it", "K04010", 0);
        due(t, "the letter behind it", "M04010", 0);
        due(t, "the small letter", "l04010", 0);
        due(t, "the letter once more", "LL04010", 1);

        t.of("two digits for the lines (04 to 32)");
        due(t, "03 is one too small", "L03010", 2);
        due(t, "04 is the least", "L04010", STORY);
        due(t, "32 is the greatest", "L32010", STORY);
        due(t, "33 is one too large", "L33010", 2);
        due(t, "one digit alone", "L4w00000", 1);

        t.of("two for the key (01 to 31)");
        due(t, "00 is one too small", "L08000", 4);
        due(t, "01 is the least", "L08010", STORY);
        due(t, "31 is the greatest", "L08310", STORY);
        due(t, "32 is one too large", "L08320", 4);

        t.of("a digit for spare media (0 to 4)");
        due(t, "the sign before 0", "L0401/", 5);
        due(t, "0 is the least", "L04010", STORY);
        due(t, "4 is the greatest", "L04014", STORY);
        due(t, "5 is one too large", "L04015", 5);
    }

    private static void commands(Sentences t) {
        t.of("and then any number of commands");
        due(t, "none", "L04010", STORY);
        due(t, "one", "L04010a1", STORY);
        due(t, "57, as many as the buffer holds", "L04010" + "a1".repeat(57), STORY);

        t.of("w, two digits for a line (00 to 31), and three for a value (000 to 999)");
        due(t, "the least of both", "L04010w00000", STORY);
        due(t, "the line 31 is the greatest", "L04010w31000", STORY);
        due(t, "the line 32 is one too large", "L04010w32000", 8);
        due(t, "the value 999 is the greatest", "L04010w00999", STORY);
        due(t, "a value of four digits", "L04010w001000", 12);
        due(t, "a value of two digits", "L04010w0010a1", 11);
        due(t, "the capital letter", "L04010W00000", 6);

        t.of("h, two digits for a line, and two for a number (01 to 99)");
        due(t, "the line 00 is the least, and the number 01", "L04010h0001", STORY);
        due(t, "the line 31 is the greatest", "L04010h3101", STORY);
        due(t, "the line 32 is one too large", "L04010h3201", 8);
        due(t, "the number 00 is one too small", "L04010h0000", 10);
        due(t, "the number 99 is the greatest", "L04010h0099", STORY);
        due(t, "a number of three digits", "L04010h00100", 11);

        t.of("a and a digit (1 to 9)");
        due(t, "0 is one too small", "L04010a0", 7);
        due(t, "1 is the least", "L04010a1", STORY);
        due(t, "9 is the greatest", "L04010a9", STORY);
        due(t, "the sign behind 9", "L04010a:", 7);
        due(t, "a number of two digits", "L04010a10", 8);
    }

    private static void whatIsLeftOut(Sentences t) {
        t.of("A text whose key has a common divisor with its lines, or is not less than them, is a story, too:"
                + " then there is no store, and all commands are left out.");
        due(t, "a common divisor: a story", "L06030a1", STORY);
        due(t, "the key is the lines: a story", "L06060a1", STORY);
        due(t, "the key is greater than the lines: a story", "L04310a1", STORY);
        leftOut(t, "a common divisor: all are left out", "L06030w00001h0001a1", 3);
        leftOut(t, "the key is the lines: all are left out", "L06060w00001h0001a1", 3);
        leftOut(t, "the key is one more than the lines: all are left out", "L06070w00001h0001a1", 3);
        leftOut(t, "the key is one less than the lines: none is left out", "L06050w00001h0001a1", 0);
        leftOut(t, "57 commands are left out", "L06030" + "a1".repeat(57), 57);
        t.answers("there is no store", 0, () -> Check.loaded("L06030a1"), x -> x.about(0));
        t.refuses("there is no line", Check.INDEX, () -> Check.loaded("L06060a1"), x -> x.read(0));

        t.of("Commands that would throw an exception are left out.");
        leftOut(t, "w of the last line is done", "L06050w05001", 0);
        leftOut(t, "w of a line behind the last one is left out", "L06050w06001", 1);
        leftOut(t, "h of the last line is done", "L06050h0501", 0);
        leftOut(t, "h of a line behind the last one is left out", "L06050h0601", 1);
        leftOut(t, "a is done", "L06050a9", 0);
        leftOut(t, "w by which the store is dead is done", "L32010h0099w00001", 0);
        leftOut(t, "w of a dead store is left out", "L32010h0099w00001w01001", 1);
        leftOut(t, "h and a of a dead store throw nothing", "L32010h0099w00001h0101a1", 0);
        leftOut(t, "h of a line behind the last one is left out of a dead store, too", "L31010h0099w00001h3101", 1);
        t.answers("a command behind one that is left out is done", 8, () -> Check.loaded("L06050w06007w05008"),
                x -> x.read(5));
        t.answers("what is left out writes nothing", 1, () -> Check.loaded("L06050w06007h0601w05008"),
                x -> x.about(4));
    }

    private static void errors(Sentences t) {
        t.of("There are no blanks.");
        due(t, "ahead of the story", " L04010", 0);
        due(t, "behind the letter L", "L 04010", 1);
        due(t, "behind the lines", "L04 010", 3);
        due(t, "behind the key", "L0401 0", 5);
        due(t, "ahead of the first command", "L04010 a1", 6);
        due(t, "in a command", "L04010w 00000", 7);
        due(t, "between two numbers of a command", "L04010w00 000", 9);
        due(t, "between two commands", "L04010a1 a1", 8);
        due(t, "behind the story", "L04010a1 ", 8);

        t.of("The text is read from left to right.");
        t.answers("the last value that is written stays", 2, () -> Check.loaded("L04010w00001w00002"), x -> x.read(0));
        t.answers("a line that is hammered behind it keeps it", 2, () -> Check.loaded("L04010w00002h0001"),
                x -> x.read(0));
        leftOut(t, "a store that is dead behind the command leaves it in", "L32010w01001h0099w00001", 0);

        t.of("The error position is the index of the first character that these rules do not allow at its place");
        due(t, "the first of all", "xL04010", 0);
        due(t, "two errors in the head", "L04990x", 3);
        due(t, "an error in the head and one in a command", "L04015a0", 5);
        due(t, "two errors in commands", "L04010a0x", 7);
        due(t, "the last of a full text", "L04010" + "a1".repeat(56) + "a0", 119);
        due(t, "the character 0", "L04010\0", 6);
        due(t, "the character 255", "L04010\u00ff", 6);

        t.of("a digit is not allowed if no number that is allowed begins with it and those before it");
        due(t, "no number of lines begins with 4", "L44", 1);
        due(t, "a number of lines begins with 3", "L3", 2);
        due(t, "no number of lines is 00", "L00", 2);
        due(t, "no key begins with 4", "L0440", 3);
        due(t, "a key begins with 0", "L040", 4);
        due(t, "no line of w begins with 4", "L04010w40000", 7);
        due(t, "a line of w begins with 3", "L04010w3", 8);
        due(t, "no line of h begins with 4", "L04010h4001", 7);
        due(t, "a number of h begins with 0", "L04010h000", 10);
        due(t, "a number of h begins with 9", "L04010h009", 10);

        due(t, "the sign ahead of 0 is no digit of the lines", "L0/010", 2);
        due(t, "the sign behind 9 is no digit of the lines", "L0:010", 2);
        due(t, "the sign behind 9 is no digit of the key", "L040:0", 4);
        due(t, "the sign ahead of 0 is no digit of a line", "L04010w0/000", 8);
        due(t, "the sign behind 9 is no digit of a line", "L04010w0:000", 8);
        due(t, "the sign ahead of 0 is no digit of a value", "L04010w0000/", 11);
        due(t, "the sign behind 9 is no digit of a value", "L04010w0000:", 11);
        due(t, "the sign behind 9 is no digit of a number of h", "L04010h000:", 10);

        t.of("if the text ends too soon, it is the length of the text");
        String whole = "L04010w31999h3199a9";
        for (int length : new int[] {0, 1, 2, 3, 4, 5, 7, 8, 9, 10, 11, 13, 14, 15, 16, 18}) {
            due(t, "behind " + length + " characters", whole.substring(0, length), length);
        }
        due(t, "behind 120 characters", "L04010" + "h0001".repeat(22) + "w000", 120);
        due(t, "one character less than 120", "L04010" + "a1".repeat(56) + "a", 119);
    }

    public static void main(String[] args) {
        Sentences t = new Sentences("TEXT");
        head(t);
        commands(t);
        whatIsLeftOut(t);
        errors(t);
        t.end();
    }
}
