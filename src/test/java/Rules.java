import java.io.IOException;
import java.nio.charset.StandardCharsets;
import java.nio.file.Files;
import java.nio.file.Path;
import java.util.regex.Matcher;
import java.util.regex.Pattern;

/** Those rules of ../shared/LANGUAGE.md that can be read off the text of the class. */
public final class Rules {
    private static final String[] FORBIDDEN = {
        "->", "::", "\\bimport\\b", "\\bpackage\\b", "\\btry\\b", "\\bcatch\\b", "\\bfinally\\b", "\\bsynchronized\\b",
        "\\bassert\\b", "\\bstatic\\s*\\{", "\\brecord\\b", "\\bvar\\b", "\\bObject\\b", "\\bThread\\b", "Exact\\(",
        "\\bequals\\b", "\\bhashCode\\b", "\\btoString\\b", "getMessage", "\\bgetClass\\b", "\\bprotected\\b",
        "\\bSystem\\.(?!arraycopy)", "\\bwhile\\s*\\(true\\)", "\\bfor\\s*\\(;", "\\+\\s*\"", "\"\\s*\\+",
    };
    private static final Pattern THROWN = Pattern.compile("throw\\b(?! new (IllegalStateException"
            + "|IllegalArgumentException|IndexOutOfBoundsException)\\(\"[^\"]*\"\\);)");
    private static final Pattern METHOD = Pattern.compile("(?m)^( {4}| {8})[a-z][^;=]*\\([^;]*\\{$");

    public static void main(String[] args) throws IOException {
        Check c = new Check();
        String source = Files.readString(Path.of("src/main/java/GapLines.java"), StandardCharsets.UTF_8);
        for (int i = 0; i < source.length(); i++) {
            if (source.charAt(i) > 126) {
                c.tell("a sign beyond ASCII at " + i);
            }
        }
        String code = source.replaceAll("(?s)/\\*.*?\\*/", "").replaceAll("//.*", "");
        for (String forbidden : FORBIDDEN) {
            Matcher m = Pattern.compile(forbidden).matcher(code);
            if (m.find()) {
                c.tell("the code has " + m.group());
            }
        }
        Matcher thrown = THROWN.matcher(code.replace("throws", ""));
        if (thrown.find()) {
            c.tell("a throw of another form");
        }
        Matcher method = METHOD.matcher(code);
        int methods = 0;
        while (method.find()) {
            methods++;
            int end = code.indexOf("\n" + method.group(1) + "}", method.end());
            long lines = code.substring(method.start(), Math.max(end, method.end())).lines().count();
            if (lines > 60 && !method.group().contains(" class ")) {
                c.tell(method.group().strip() + " has " + lines + " lines");
            }
        }
        if (methods < 26) {
            c.tell("only " + methods + " methods were found");
        }
        c.end();
    }
}
