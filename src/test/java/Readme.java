import java.io.IOException;
import java.lang.reflect.InvocationTargetException;
import java.lang.reflect.Method;
import java.lang.reflect.Modifier;
import java.nio.charset.StandardCharsets;
import java.nio.file.Files;
import java.nio.file.Path;
import java.util.ArrayList;
import java.util.List;
import java.util.regex.Matcher;
import java.util.regex.Pattern;

/** README.md names every call, and each call of its examples answers what the comment behind it says. */
public final class Readme {
    private static final Pattern BLOCK = Pattern.compile("(?s)```java\n(.*?)```");
    private static final Pattern FRAME =
            Pattern.compile("|public final class Example \\{|public static void main\\(String\\[\\] args\\) \\{|\\}");
    private static final Pattern NEW = Pattern.compile("(GapLines )?store = new GapLines\\(\\);");
    private static final Pattern TYPED =
            Pattern.compile("for \\(char sign : \"([^\"]*)\"\\.toCharArray\\(\\)\\) store\\.append\\(sign\\);");
    private static final Pattern CALL = Pattern.compile("(?:System\\.out\\.println\\()?store\\.(\\w+)\\(([^)]*)\\)\\)?;"
            + " +// (?:throws )?(-?\\d+|\\w+Exception)(?:: .*)?");

    private final Check c = new Check();
    private GapLines store = new GapLines();
    private int calls;

    private static Method methodOf(String name) {
        for (Method m : GapLines.class.getDeclaredMethods()) {
            if (Modifier.isPublic(m.getModifiers()) && m.getName().equals(name)) {
                return m;
            }
        }
        return null;
    }

    private static Object valueOf(String argument, Class<?> type) {
        if (argument.startsWith("'")) {
            return (int) argument.charAt(1);
        }
        if (type == long.class) {
            return Long.valueOf(argument.replace("L", ""));
        }
        return Integer.valueOf(argument);
    }

    private String answer(Method m, String written) throws IllegalAccessException {
        List<Object> values = new ArrayList<>();
        String[] arguments = written.isEmpty() ? new String[0] : written.split(", ");
        for (int i = 0; i < arguments.length; i++) {
            values.add(valueOf(arguments[i], m.getParameterTypes()[i]));
        }
        try {
            return m.invoke(store, values.toArray()).toString();
        } catch (InvocationTargetException e) {
            return e.getCause().getClass().getSimpleName();
        }
    }

    private void run(String line) throws IllegalAccessException {
        Matcher typed = TYPED.matcher(line);
        Matcher call = CALL.matcher(line);
        if (NEW.matcher(line).matches()) {
            store = new GapLines();
        } else if (typed.matches()) {
            Check.type(store, typed.group(1));
        } else if (call.matches() && methodOf(call.group(1)) != null) {
            calls++;
            c.same(line, call.group(3), answer(methodOf(call.group(1)), call.group(2)));
        } else if (!FRAME.matcher(line).matches()) {
            c.tell("the example has a line that is not understood: " + line);
        }
    }

    private void namesAllCalls(String readme) {
        for (Method m : GapLines.class.getDeclaredMethods()) {
            if (Modifier.isPublic(m.getModifiers()) && !readme.contains("| `" + m.getName() + "(")
                    && !readme.contains("\n`" + m.getName() + "(")) {
                c.tell("README.md does not say what " + m.getName() + " is for");
            }
        }
    }

    public static void main(String[] args) throws IOException, IllegalAccessException {
        Readme t = new Readme();
        String readme = Files.readString(Path.of("README.md"), StandardCharsets.UTF_8);
        t.namesAllCalls(readme);
        Matcher block = BLOCK.matcher(readme);
        while (block.find()) {
            for (String line : block.group(1).split("\n")) {
                t.run(line.strip());
            }
        }
        if (t.calls < 26) {
            t.c.tell("only " + t.calls + " calls were found in the examples");
        }
        t.c.end();
    }
}
