import java.io.IOException;
import java.lang.invoke.MethodHandles;
import java.lang.reflect.Method;
import java.lang.reflect.Modifier;
import java.nio.charset.StandardCharsets;
import java.nio.file.Files;
import java.nio.file.Path;
import java.util.Comparator;
import java.util.TreeSet;
import java.util.regex.Matcher;
import java.util.regex.Pattern;
import java.util.stream.Collectors;
import java.util.stream.Stream;
import javax.tools.JavaCompiler;
import javax.tools.ToolProvider;

/**
 * README.md: the pieces of Java that it shows are run as one program, and each answer behind a // is compared with that
 * of the class; the command and the tests that it names are there.
 */
public final class ReadmeTest {
    private static final Pattern BLOCK = Pattern.compile("```java\n(.*?)```", Pattern.DOTALL);
    private static final Pattern LINE = Pattern.compile("((?:\\w+ (\\w+) = )?(.*?));(?: *// (.*))?");
    private static final Pattern ANSWER = Pattern.compile("(-?\\d+|true|false)(:.*)?");
    private static final Pattern THROWN = Pattern.compile("throws (Index|Illegal)(OutOfBounds|Argument|State)Exception\\b.*");
    private static final Pattern CALL = Pattern.compile("club\\.(\\w+)\\(");

    private ReadmeTest() {
    }

    public static void main(String[] args) throws Exception {
        Path root = Path.of(System.getProperty("root", "."));
        String page = Files.readString(root.resolve("README.md"), StandardCharsets.UTF_8);
        String shown = theProgram(page);
        everyCallIsShown(shown);
        Path made = Files.createTempDirectory("readme");
        try {
            run(made, programOf(shown));
        } finally {
            remove(made);
        }
        theCommand(root, page);
        theTable(root, page);
        Check.end();
    }

    private static String theProgram(String page) {
        StringBuilder shown = new StringBuilder();
        Matcher blocks = BLOCK.matcher(page);
        while (blocks.find()) {
            shown.append(blocks.group(1));
        }
        return shown.toString();
    }

    private static void everyCallIsShown(String shown) {
        TreeSet<String> calls = new TreeSet<>();
        Matcher called = CALL.matcher(shown);
        while (called.find()) {
            calls.add(called.group(1));
        }
        for (Method method : CallClub.class.getDeclaredMethods()) {
            if (Modifier.isPublic(method.getModifiers())) {
                Check.equal("README.md shows " + method.getName(), calls.contains(method.getName()), true);
            }
        }
    }

    private static String programOf(String shown) {
        StringBuilder text = new StringBuilder("public final class Shown {\n    public static void run() {\n");
        for (String line : shown.split("\n")) {
            if (!line.isBlank()) {
                text.append("        ").append(statementOf(line)).append('\n');
            }
        }
        return text.append("    }\n}\n").toString();
    }

    /** The line itself, and the comparison of its answer with the one that it shows. */
    private static String statementOf(String line) {
        Matcher parts = LINE.matcher(line);
        if (!parts.matches()) {
            throw new IllegalStateException("no line of README.md that can be run: " + line);
        }
        String what = "\"" + line.replace("\\", "\\\\").replace("\"", "\\\"") + "\"";
        String comment = parts.group(4) == null ? "" : parts.group(4);
        Matcher answer = ANSWER.matcher(comment);
        Matcher thrown = THROWN.matcher(comment);
        String name = parts.group(2);
        String call = parts.group(3);
        if (thrown.matches()) {
            String kind = thrown.group(2).equals("OutOfBounds") ? "index" : thrown.group(2).toLowerCase();
            return "Check." + kind + "(" + what + ", () -> " + call + ");";
        }
        if (!answer.matches()) {
            Check.equal("README.md shows the answer of: " + line, answersNothing(call), true);
            return parts.group(1) + ";";
        }
        String due = ", " + answer.group(1) + ");";
        return name == null ? "Check.equal(" + what + ", " + call + due
                : parts.group(1) + "; Check.equal(" + what + ", " + name + due;
    }

    private static boolean answersNothing(String call) {
        Matcher called = CALL.matcher(call);
        if (!called.lookingAt()) {
            return call.equals("new CallClub()");
        }
        for (Method method : CallClub.class.getDeclaredMethods()) {
            if (method.getName().equals(called.group(1))) {
                return method.getReturnType() == void.class;
            }
        }
        return false;
    }

    private static void run(Path made, String program) throws Exception {
        JavaCompiler javac = ToolProvider.getSystemJavaCompiler();
        if (javac == null) {
            throw new IllegalStateException("there is no javac to compile what README.md shows");
        }
        Path source = made.resolve("Shown.java");
        Files.writeString(source, program, StandardCharsets.UTF_8);
        String classes = System.getProperty("java.class.path");
        int failed = javac.run(null, null, null, "-encoding", "UTF-8", "-cp", classes, "-d", made.toString(),
                source.toString());
        Check.equal("what README.md shows is compiled", failed, 0);
        if (failed == 0) {
            byte[] shown = Files.readAllBytes(made.resolve("Shown.class"));
            MethodHandles.lookup().defineClass(shown).getMethod("run").invoke(null);
        }
    }

    private static void remove(Path directory) throws IOException {
        try (Stream<Path> paths = Files.walk(directory)) {
            for (Path path : paths.sorted(Comparator.reverseOrder()).collect(Collectors.toList())) {
                Files.delete(path);
            }
        }
    }

    private static void theCommand(Path root, String page) {
        Check.equal("README.md names the command of the tests", page.contains("## Tests\n\n```\n.ci/run\n```\n"), true);
        Check.equal("the command can be run", Files.isExecutable(root.resolve(".ci/run")), true);
    }

    private static void theTable(Path root, String page) throws IOException {
        TreeSet<String> named = new TreeSet<>();
        Matcher rows = Pattern.compile("\n\\| `(\\w+)` \\|").matcher(page);
        while (rows.find()) {
            named.add(rows.group(1) + ".java");
        }
        try (Stream<Path> paths = Files.list(root.resolve("src/test/java"))) {
            for (Path path : paths.collect(Collectors.toList())) {
                String name = path.getFileName().toString();
                if (name.endsWith("Test.java")) {
                    Check.equal("README.md names " + name, named.remove(name), true);
                }
            }
        }
        Check.equal("README.md names tests that are not there: " + named, named.size(), 0);
    }
}
