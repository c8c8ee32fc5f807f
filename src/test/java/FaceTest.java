import java.io.IOException;
import java.lang.reflect.Constructor;
import java.lang.reflect.Field;
import java.lang.reflect.Method;
import java.lang.reflect.Modifier;
import java.nio.file.Files;
import java.nio.file.Path;
import java.util.Set;
import java.util.TreeSet;
import java.util.regex.Matcher;
import java.util.regex.Pattern;

/** The public face as the document has it, and what can be seen of LANGUAGE.md in the file. */
public final class FaceTest {
    private static final Check check = new Check("FaceTest");
    private static final String[] FACE = {
        "type 1", "clear 0", "book 0", "device 2", "named 1", "node 2", "now 1", "moves 1", "locks 1", "prices 3",
        "lists 1", "goes 0", "drops 0", "undo 0", "plan 3", "work 2", "supply 1", "odds 2", "sees 2", "forget 0",
        "unseen 0", "look 0", "keep 1", "back 1", "count 1"};

    public static void main(String[] args) throws IOException {
        constants();
        members();
        file();
        check.end();
    }

    private static void constants() {
        check.due("BAD", SwitchBook.BAD, -1);
        check.due("STATE", SwitchBook.STATE, -2);
        check.due("FULL", SwitchBook.FULL, -3);
        check.due("NONE", SwitchBook.NONE, -9);
    }

    private static void members() {
        Class<?> c = SwitchBook.class;
        check.due("public final", c.getModifiers(), Modifier.PUBLIC | Modifier.FINAL);
        check.due("constructors", c.getDeclaredConstructors().length, 1);
        for (Constructor<?> made : c.getDeclaredConstructors()) {
            check.due("constructor", made.getModifiers() * 10 + made.getParameterCount(), Modifier.PUBLIC * 10);
        }
        Set<String> open = new TreeSet<>();
        Set<String> names = new TreeSet<>();
        for (Method m : c.getDeclaredMethods()) {
            if (Modifier.isPrivate(m.getModifiers()) || m.isSynthetic()) continue;
            open.add(m.getName() + " " + m.getParameterCount());
            names.add(m.getName());
            check.due(m + " is public and answers an int", m.getReturnType() == int.class ? m.getModifiers() : -1, Modifier.PUBLIC);
        }
        check.due("the methods of the face", open.equals(new TreeSet<>(Set.of(FACE))) ? 1 : 0, 1);
        for (Method m : c.getDeclaredMethods()) {
            if (Modifier.isPrivate(m.getModifiers())) check.due("a private " + m.getName(), names.contains(m.getName()) ? 1 : 0, 0);
        }
        int constants = 0;
        for (Field f : c.getDeclaredFields()) {
            if (!Modifier.isPrivate(f.getModifiers())) constants++;
            if (Modifier.isStatic(f.getModifiers())) check.due(f + " is final", Modifier.isFinal(f.getModifiers()) ? 1 : 0, 1);
        }
        check.due("constants of the face", constants, 4);
        for (Class<?> inside : c.getDeclaredClasses()) {
            check.due(inside + " is static", Modifier.isStatic(inside.getModifiers()) ? 1 : 0, 1);
        }
    }

    private static void file() throws IOException {
        String code = Files.readString(Path.of("src/main/java/SwitchBook.java"))
            .replaceAll("(?s)/\\*.*?\\*/", "").replaceAll("//[^\n]*", "");
        String[] ruledOut = {"\\bthrow\\b", "\\btry\\b", "\\bcatch\\b", "\\bsynchronized\\b", "\\bassert\\b", "->", "::",
            "\\bpackage\\b", "\\bprotected\\b", "\\bSystem\\.(?!arraycopy)", "\\bRandom\\b", "\\bThread\\b", "Exact\\b", "\\bvar\\b"};
        for (String no : ruledOut) {
            Matcher m = Pattern.compile(no).matcher(code);
            check.due("the file has " + no, m.find() ? 1 : 0, 0);
        }
        Matcher imports = Pattern.compile("import ([^;]*);").matcher(code);
        while (imports.find()) check.due("import " + imports.group(1), imports.group(1).equals("java.util.Arrays") ? 1 : 0, 1);
    }
}
