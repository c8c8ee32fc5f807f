import java.io.IOException;
import java.nio.file.Files;
import java.nio.file.Path;
import java.util.Comparator;
import java.util.List;
import java.util.concurrent.TimeUnit;
import java.util.regex.MatchResult;
import java.util.regex.Pattern;
import java.util.stream.Stream;

/** .ci/run on small projects of its own, with and without a test that fails; and the commands that README.md shows. */
public final class RunTest {
    private static final Check check = new Check("RunTest");
    private static final String GOOD = "good", BAD = "bad", THROWS = "throws", BROKEN = "broken", NO_TEST = "";
    private static final String CLASS = "src/main/java/SwitchBook.java";

    public static void main(String[] args) throws Exception {
        check.due(".ci/run can be run", Files.isExecutable(Path.of(".ci/run")) ? 1 : 0, 1);
        dueEnd("all pass", GOOD, GOOD, true, 0);
        dueEnd("one of the project's fails", BAD, GOOD, true, 1);
        dueEnd("one of the project's throws", THROWS, GOOD, true, 1);
        dueEnd("one of the project's can't be compiled", BROKEN, GOOD, true, 1);
        dueEnd("one under shared/tests fails", GOOD, BAD, true, 1);
        dueEnd("one under shared/tests throws", GOOD, THROWS, true, 1);
        dueEnd("one under shared/tests can't be compiled", GOOD, BROKEN, true, 1);
        dueEnd("the class can't be compiled", GOOD, GOOD, false, 1);
        dueEnd("shared/tests is not there", GOOD, NO_TEST, true, 1);
        commands();
        check.end();
    }

    // ---- .ci/run

    /** The failing ones stand first, so that those behind them show whether all are run. */
    private static void dueEnd(String what, String own, String shared, boolean rightClass, int due) throws Exception {
        Path room = Files.createTempDirectory("run");
        try {
            Path project = room.resolve("main");
            write(project.resolve(".ci/run"), Files.readString(Path.of(".ci/run")));
            write(project.resolve(CLASS), rightClass ? Files.readString(Path.of(CLASS)) : "public class SwitchBook {");
            write(project.resolve("src/test/java/ATest.java"), test("ATest", own));
            write(project.resolve("src/test/java/BTest.java"), test("BTest", GOOD));
            if (!shared.equals(NO_TEST)) {
                write(room.resolve("shared/tests/C.java"), test("C", shared));
                write(room.resolve("shared/tests/deeper/D.java"), test("D", GOOD));
            }
            long files = countFiles(room);
            Ended ended = call(room, "sh", "main/.ci/run");
            check.due(what + ": exit code", ended.code, due);
            check.due(what + ": files left behind", countFiles(room), files);
            boolean compiles = rightClass && !own.equals(BROKEN);
            if (compiles) dueRun(what, ended.printed, "ATest BTest");
            if (compiles && !shared.equals(NO_TEST)) {
                check.due(what + ": closing line", ended.printed.endsWith((4 - due) + " passed, " + due + " failed\n") ? 1 : 0, 1);
            }
            if (compiles && shared.equals(GOOD)) dueRun(what, ended.printed, "C D");
            if (compiles && shared.equals(BROKEN)) dueRun(what, ended.printed, "D");
        } finally {
            remove(room);
        }
    }

    private static void dueRun(String what, String printed, String names) {
        for (String name : names.split(" ")) check.due(what + ": " + name + " is run", printed.contains(name + " runs") ? 1 : 0, 1);
    }

    private static String test(String name, String kind) {
        String end = switch (kind) {
            case BAD -> "System.exit(1);";
            case THROWS -> "throw new IllegalStateException();";
            case BROKEN -> "no such thing";
            default -> "if (new SwitchBook().count(0) != 3) System.exit(1);";
        };
        return "public final class " + name + " { public static void main(String[] a) { System.out.println(\""
            + name + " runs\"); " + end + " } }\n";
    }

    // ---- the commands of README.md

    /** Those that call javac, in a room where the project's sources lie; .ci/run itself would call this test again. */
    private static void commands() throws Exception {
        List<MatchResult> shown = Pattern.compile("(?m)^ {4}(\\S.*)$").matcher(Files.readString(Path.of("README.md"))).results().toList();
        check.due("commands", shown.size(), 3);
        check.due("the one that runs all tests", shown.stream().anyMatch(c -> c.group(1).equals(".ci/run")) ? 1 : 0, 1);
        for (MatchResult c : shown) {
            if (c.group(1).equals(".ci/run")) continue;
            Path room = Files.createTempDirectory("run");
            try {
                Files.createSymbolicLink(room.resolve("src"), Path.of("src").toAbsolutePath());
                check.due(c.group(1), call(room, "sh", "-c", c.group(1)).code, 0);
                check.due("the class compiled", Files.exists(room.resolve("out/SwitchBook.class")) ? 1 : 0, 1);
            } finally {
                remove(room);
            }
        }
    }

    // ---- files and programs

    private record Ended(int code, String printed) { }

    private static Ended call(Path dir, String... command) throws IOException, InterruptedException {
        Path printed = Files.createTempFile("run", ".txt");
        try {
            Process p = new ProcessBuilder(command).directory(dir.toFile())
                .redirectErrorStream(true).redirectOutput(printed.toFile()).start();
            boolean over = p.waitFor(200, TimeUnit.SECONDS);
            if (!over) p.destroyForcibly();
            return new Ended(over ? p.exitValue() : -1, Files.readString(printed));
        } finally {
            Files.delete(printed);
        }
    }

    private static void write(Path file, String words) throws IOException {
        Files.createDirectories(file.getParent());
        Files.writeString(file, words);
    }

    private static long countFiles(Path dir) throws IOException {
        try (Stream<Path> files = Files.walk(dir)) {
            return files.count();
        }
    }

    private static void remove(Path dir) throws IOException {
        try (Stream<Path> files = Files.walk(dir)) {
            for (Path file : files.sorted(Comparator.reverseOrder()).toList()) Files.delete(file);
        }
    }
}
