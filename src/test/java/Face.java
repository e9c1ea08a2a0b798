import java.lang.reflect.Constructor;
import java.lang.reflect.Field;
import java.lang.reflect.Method;
import java.lang.reflect.Modifier;
import java.util.ArrayList;
import java.util.List;
import java.util.TreeSet;

/** The public face is the document's, word for word, and nothing beside it is seen from outside. */
public final class Face {
    private static final String[] DUE = {
        "int append(int) throws IllegalArgumentException IllegalStateException",
        "int clearText() throws",
        "int errorPosition() throws",
        "int load() throws IllegalStateException",
        "int about(int) throws IllegalArgumentException",
        "int read(int) throws IndexOutOfBoundsException",
        "int place(int) throws IndexOutOfBoundsException",
        "int line(int) throws IndexOutOfBoundsException",
        "int wear(int) throws IndexOutOfBoundsException",
        "int setting(int) throws IllegalArgumentException",
        "int make(int, int, int) throws IllegalArgumentException",
        "int write(int, int) throws IndexOutOfBoundsException IllegalArgumentException IllegalStateException",
        "int hammer(int, int) throws IndexOutOfBoundsException IllegalArgumentException",
        "int all(int) throws IllegalArgumentException IllegalStateException",
        "int set(int, int) throws IllegalArgumentException",
        "int undo() throws IllegalStateException",
        "int life(int) throws IndexOutOfBoundsException",
        "int lifeOfAll() throws IllegalStateException",
        "int ifEvery(int, int, int) throws IndexOutOfBoundsException IllegalArgumentException",
        "int bestEvery(int, int) throws IndexOutOfBoundsException IllegalArgumentException",
        "int movesTo(int) throws IndexOutOfBoundsException",
        "int placeBehind(int, int) throws IndexOutOfBoundsException IllegalArgumentException",
        "int runScript(int, long) throws IllegalArgumentException",
        "int simulate(long, int) throws IllegalArgumentException",
        "int save(int) throws IndexOutOfBoundsException",
        "int restore(int) throws IndexOutOfBoundsException IllegalStateException",
    };

    private static String described(Method m) {
        List<String> parameters = new ArrayList<>();
        for (Class<?> type : m.getParameterTypes()) {
            parameters.add(type.getSimpleName());
        }
        StringBuilder s = new StringBuilder(m.getReturnType().getSimpleName()).append(' ').append(m.getName());
        s.append('(').append(String.join(", ", parameters)).append(") throws");
        for (Class<?> type : m.getExceptionTypes()) {
            s.append(' ').append(type.getSimpleName());
        }
        return s.toString();
    }

    public static void main(String[] args) {
        Check c = new Check();
        TreeSet<String> seen = new TreeSet<>();
        TreeSet<String> names = new TreeSet<>();
        for (Method m : GapLines.class.getDeclaredMethods()) {
            if (!Modifier.isPrivate(m.getModifiers())) {
                seen.add(described(m));
                names.add(m.getName());
                if (m.getModifiers() != Modifier.PUBLIC) {
                    c.tell(m + " is not just public");
                }
            }
        }
        c.same("the methods", String.join("\n  ", new TreeSet<>(List.of(DUE))), String.join("\n  ", seen));
        for (Method m : GapLines.class.getDeclaredMethods()) {
            if (Modifier.isPrivate(m.getModifiers()) && names.contains(m.getName())) {
                c.tell("the private method " + m.getName() + " bears the name of a public one");
            }
        }
        for (Field f : GapLines.class.getDeclaredFields()) {
            if (!Modifier.isPrivate(f.getModifiers()) && !f.getName().equals("NONE")) {
                c.tell(f + " is seen from outside");
            }
        }
        Constructor<?>[] constructors = GapLines.class.getDeclaredConstructors();
        if (constructors.length != 1 || constructors[0].toString().compareTo("public GapLines()") != 0) {
            c.tell("the constructors are not the document's");
        }
        if (GapLines.class.getModifiers() != (Modifier.PUBLIC | Modifier.FINAL)) {
            c.tell("the class is not public and final");
        }
        for (Class<?> inside : GapLines.class.getDeclaredClasses()) {
            if (!Modifier.isStatic(inside.getModifiers()) || Modifier.isPublic(inside.getModifiers())
                    || Modifier.isProtected(inside.getModifiers())) {
                c.tell(inside + " is not static or is seen from outside");
            }
        }
        c.end();
    }
}
