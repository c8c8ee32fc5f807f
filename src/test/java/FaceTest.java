import java.io.IOException;
import java.lang.reflect.Constructor;
import java.lang.reflect.Field;
import java.lang.reflect.Method;
import java.lang.reflect.Modifier;
import java.nio.file.Files;
import java.nio.file.Path;
import java.util.Arrays;
import java.util.Set;
import java.util.TreeSet;
import java.util.stream.Collectors;

/** The public face: just what the document has in 'The public face', by the same words. */
public final class FaceTest {
    private static final Check check = new Check("FaceTest");
    private static final String[] FACE = {
        "type(int letter)", "clear()", "book()", "device(int k, int what)", "named(int letter)", "node(int u, int what)",
        "now(int what)", "moves(int k)", "locks(int k)", "prices(int breaker, int isolator, int earth)", "lists(int k)",
        "goes()", "drops()", "undo()", "plan(int set, int closed, int k)", "work(int u, int k)", "supply(int k)",
        "odds(int x, int what)", "sees(int u, int live)", "forget()", "unseen()", "look()", "keep(int image)",
        "back(int image)", "count(int what)"};

    public static void main(String[] args) throws IOException {
        constants();
        words();
        methods();
        fieldsAndClasses();
        check.end();
    }

    private static void constants() {
        check.says("public static final int BAD = -1, STATE = -2, FULL = -3, NONE = -9;");
        check.due("BAD", SwitchBook.BAD, -1);
        check.due("STATE", SwitchBook.STATE, -2);
        check.due("FULL", SwitchBook.FULL, -3);
        check.due("NONE", SwitchBook.NONE, -9);
    }

    /** The document's lines stand in the file, by the same names of what is handed over. */
    private static void words() throws IOException {
        String file = Files.readString(Path.of("src/main/java/SwitchBook.java"));
        check.says("public final class SwitchBook {");
        check.due("the class", file.contains("public final class SwitchBook {") ? 1 : 0, 1);
        check.says("public SwitchBook();");
        check.due("the constructor", file.contains("public SwitchBook() {") ? 1 : 0, 1);
        for (String call : FACE) {
            check.says("public int " + call + ";");
            check.due(call, file.contains("public int " + call + " {") ? 1 : 0, 1);
        }
    }

    private static String withoutNames(String call) {
        return call.replaceAll("int \\w+", "int");
    }

    private static String face(Method m) {
        return m.getName() + Arrays.stream(m.getParameterTypes()).map(Class::getName).collect(Collectors.joining(", ", "(", ")"));
    }

    private static void methods() {
        check.says("## The public face");
        Class<?> c = SwitchBook.class;
        check.due("public final", c.getModifiers(), Modifier.PUBLIC | Modifier.FINAL);
        check.due("of no other class", c.getSuperclass() == Object.class && c.getInterfaces().length == 0 ? 1 : 0, 1);
        check.due("constructors", c.getDeclaredConstructors().length, 1);
        for (Constructor<?> made : c.getDeclaredConstructors()) {
            check.due("constructor", made.getModifiers() * 10 + made.getParameterCount(), Modifier.PUBLIC * 10);
        }
        Set<String> due = new TreeSet<>();
        for (String call : FACE) due.add(withoutNames(call));
        Set<String> open = new TreeSet<>();
        Set<String> names = new TreeSet<>();
        for (Method m : c.getDeclaredMethods()) {
            if (Modifier.isPrivate(m.getModifiers()) || m.isSynthetic()) continue;
            open.add(face(m));
            names.add(m.getName());
            check.due(m + " is public and answers an int", m.getReturnType() == int.class ? m.getModifiers() : -1, Modifier.PUBLIC);
        }
        check.due("the methods of the face", open.toString(), due.toString());
        for (Method m : c.getDeclaredMethods()) {
            if (Modifier.isPrivate(m.getModifiers())) check.due("a private " + m.getName(), names.contains(m.getName()) ? 1 : 0, 0);
        }
    }

    private static void fieldsAndClasses() {
        Set<String> open = new TreeSet<>();
        for (Field f : SwitchBook.class.getDeclaredFields()) {
            if (!Modifier.isPrivate(f.getModifiers())) open.add(Modifier.toString(f.getModifiers()) + " " + f.getType() + " " + f.getName());
        }
        Set<String> due = new TreeSet<>();
        for (String name : new String[] {"BAD", "STATE", "FULL", "NONE"}) due.add("public static final int " + name);
        check.due("the fields of the face", open.toString(), due.toString());
        for (Class<?> inside : SwitchBook.class.getDeclaredClasses()) {
            int tooOpen = inside.getModifiers() & (Modifier.PUBLIC | Modifier.PROTECTED);
            check.due(inside + " is static, and not open to others", Modifier.isStatic(inside.getModifiers()) ? tooOpen : -1, 0);
        }
    }
}
