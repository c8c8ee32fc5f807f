import java.io.IOException;
import java.lang.reflect.Method;
import java.lang.reflect.Modifier;
import java.net.URL;
import java.net.URLClassLoader;
import java.nio.file.Files;
import java.nio.file.Path;
import java.util.ArrayList;
import java.util.List;
import java.util.Set;
import java.util.TreeSet;
import java.util.regex.MatchResult;
import java.util.regex.Matcher;
import java.util.regex.Pattern;
import java.util.stream.Stream;
import javax.tools.ToolProvider;

/** What README.md shows is so: the example's calls and answers, the numbers it names, the tests it lists. */
public final class ReadmeTest {
    private static final Check check = new Check("ReadmeTest");
    private static final Pattern CALL = Pattern.compile("x\\.(\\w+)\\((.*)\\);\\s*// (-?\\d+)(:.*)?");

    public static void main(String[] args) throws Exception {
        String page = Files.readString(Path.of("README.md"));
        example(page);
        items(page);
        refusals(page);
        howMany(page);
        tests(page);
        check.end();
    }

    private static List<MatchResult> all(String pattern, String page) {
        return Pattern.compile(pattern).matcher(page).results().toList();
    }

    // ---- the example

    private static void example(String page) throws Exception {
        Set<String> shown = new TreeSet<>();
        StringBuilder program = new StringBuilder("public final class Example {\n")
            .append("static java.util.List<Object[]> rows = new java.util.ArrayList<>();\n")
            .append("static void row(String call, int got, int want) { rows.add(new Object[] {call, got, want}); }\n")
            .append("public static java.util.List<Object[]> run() {\n");
        for (MatchResult block : all("(?s)```java\n(.*?)```", page)) {
            for (String line : block.group(1).split("\n")) program.append(asRow(line, shown)).append('\n');
        }
        program.append("return rows;\n}\n}\n");
        List<Object[]> rows = callAll(program.toString());
        for (Object[] row : rows) check.due("the example's " + row[0], (Integer) row[1], (Integer) row[2]);
        check.due("each call of the face is shown with its answer", shown.toString(), face().toString());
    }

    /** A line that begins with a call tells its answer; others are taken as they stand. */
    private static String asRow(String line, Set<String> shown) {
        Matcher m = CALL.matcher(line);
        if (!m.matches()) {
            check.due("a call without its answer: " + line, line.startsWith("x.") ? 1 : 0, 0);
            if (line.contains("x.type(")) shown.add("type");
            return line;
        }
        shown.add(m.group(1));
        String call = m.group(1) + "(" + m.group(2) + ")";
        return "row(\"" + call + "\", x." + call + ", " + m.group(3) + ");";
    }

    private static Set<String> face() {
        Set<String> names = new TreeSet<>();
        for (Method m : SwitchBook.class.getDeclaredMethods()) {
            if (Modifier.isPublic(m.getModifiers())) names.add(m.getName());
        }
        return names;
    }

    private static List<Object[]> callAll(String program) throws Exception {
        Path dir = Files.createTempDirectory("readme");
        try {
            Path file = Files.writeString(dir.resolve("Example.java"), program);
            String here = System.getProperty("java.class.path");
            int answer = ToolProvider.getSystemJavaCompiler()
                .run(null, null, null, "-cp", here, "-d", dir.toString(), file.toString());
            check.due("compiling the example", answer, 0);
            return answer == 0 ? rowsOf(dir) : List.of();
        } finally {
            remove(dir);
        }
    }

    private static List<Object[]> rowsOf(Path dir) throws Exception {
        List<Object[]> rows = new ArrayList<>();
        try (URLClassLoader loader = new URLClassLoader(new URL[] {dir.toUri().toURL()})) {
            Object answer = loader.loadClass("Example").getMethod("run").invoke(null);
            for (Object row : (List<?>) answer) rows.add((Object[]) row);
        }
        return rows;
    }

    private static void remove(Path dir) throws IOException {
        try (Stream<Path> files = Files.list(dir)) {
            for (Path file : files.toList()) Files.delete(file);
        }
        Files.delete(dir);
    }

    // ---- the tables

    /** The items' first letters are those of the table, and no others. */
    private static void items(String page) {
        StringBuilder letters = new StringBuilder();
        StringBuilder words = new StringBuilder();
        for (MatchResult row : all("(?m)^\\| `([a-z])(( [A-Z])+)` \\|", page)) {
            letters.append(row.group(1));
            words.append(row.group(1)).append(row.group(2)).append(';');
        }
        check.due("the items", words.toString(), "n N;s U;d U;b X U V;i X U V;e X U;c X;k X;");
        for (char first = 'a'; first <= 'z'; first++) {
            boolean item = letters.indexOf(String.valueOf(first)) >= 0;
            check.due("a text that begins with " + first, Check.tell(new SwitchBook(), first + ""), item ? -11 : -10);
        }
        check.due("all of them in one text", Check.tell(new SwitchBook(), "n 6;s 0;d 1;b x 0 1;i y 1 2;e z 3;c z;k z;"), 8);
    }

    private static void refusals(String page) throws Exception {
        List<MatchResult> rows = all("(?m)^\\| (-\\d+) \\| `(\\w+)` \\|", page);
        check.due("refusals that have names", rows.size(), 4);
        for (MatchResult row : rows) {
            check.due(row.group(2), SwitchBook.class.getField(row.group(2)).getInt(null), Integer.parseInt(row.group(1)));
        }
    }

    private static void howMany(String page) {
        SwitchBook x = Check.told("ba0 1;");
        dueMost(page, "(\\d+) letters, 12", () -> x.type(' '));
        dueMost(page, "(\\d+) in the order", () -> x.lists(0));
        dueMost(page, "(\\d+) seen", () -> x.sees(0, 0));
        check.due("letters of a text", number(page, "text of at most (\\d+) letters"), x.count(4));
        int known = number(page, "latest (\\d+) of `moves`, `locks`,\\s+`prices`, `goes` can be undone");
        for (int i = 1; i <= known + 1; i++) {
            x.moves(0);
            check.due("may be undone behind " + i, x.now(8), Math.min(i, known));
        }
        check.due("calls of an object", number(page, "good for (\\d+) calls"), 512);
        check.due("switches in all", number(page, "(\\d+) switches in all"), 8);
        check.due("eight", Check.tell(new SwitchBook(), "ea0;eb0;ec0;ed0;ee0;ef0;eg0;eh0;"), 8);
    }

    private static int number(String page, String pattern) {
        List<MatchResult> found = all(pattern, page);
        return found.size() == 1 ? Integer.parseInt(found.get(0).group(1)) : -1;
    }

    private interface Call {
        int make();
    }

    /** So many of them come, and one more is refused. */
    private static void dueMost(String page, String pattern, Call call) {
        int most = number(page, pattern);
        int last = call.make();
        for (int i = 0; i < 200 && last != SwitchBook.FULL; i++) {
            int next = call.make();
            if (next == SwitchBook.FULL) check.due("the most by " + pattern, last, most);
            last = next;
        }
        check.due("one more, by " + pattern, last, SwitchBook.FULL);
    }

    private static void tests(String page) throws IOException {
        Set<String> listed = new TreeSet<>();
        for (MatchResult row : all("(?m)^\\| `(\\w+Test)` \\|", page)) listed.add(row.group(1));
        Set<String> there = new TreeSet<>();
        Set<String> helpers = new TreeSet<>();
        try (Stream<Path> files = Files.list(Path.of("src/test/java"))) {
            for (Path file : files.toList()) {
                String name = file.getFileName().toString().replace(".java", "");
                (name.endsWith("Test") ? there : helpers).add(name);
            }
        }
        check.due("the tests that are listed", listed.toString(), there.toString());
        for (String name : helpers) check.due(name + " is told of", page.contains("`" + name + "`") ? 1 : 0, 1);
    }
}
