import java.io.ByteArrayOutputStream;
import java.io.IOException;
import java.io.PrintStream;
import java.lang.reflect.Method;
import java.lang.reflect.Modifier;
import java.net.URL;
import java.net.URLClassLoader;
import java.nio.charset.StandardCharsets;
import java.nio.file.Files;
import java.nio.file.Path;
import java.util.Comparator;
import java.util.List;
import java.util.Map;
import java.util.TreeMap;
import java.util.TreeSet;
import java.util.regex.Matcher;
import java.util.regex.Pattern;
import java.util.stream.Stream;
import javax.tools.ToolProvider;

/** Tries what README.md says: its example, its lists of calls, exceptions and tests, and what the tests print. */
public final class ReadmeTest {
    private static final Path TESTS = Path.of("src/test/java");
    private static int wrong = 0;

    private ReadmeTest() {
    }

    public static void main(String[] args) throws Exception {
        String readme = Files.readString(Path.of("README.md"));
        checkExample(readme);
        checkCalls(readme, Files.readString(Path.of("../shared/DOC.md")));
        checkExceptions(readme);
        checkTests(readme);
        if (wrong > 0) {
            System.exit(1);
        }
    }

    private static void same(String what, Object got, Object due) {
        if (!got.equals(due)) {
            wrong++;
            System.out.println("ReadmeTest: " + what + " in README.md: " + got + ", due is " + due);
        }
    }

    /** The program that stands there prints what stands there behind it. */
    private static void checkExample(String readme) throws Exception {
        Path folder = Files.createTempDirectory("readme");
        try {
            Path source = folder.resolve("Example.java");
            Files.writeString(source, block(readme, "java", 0));
            String classes = System.getProperty("java.class.path");
            int code = ToolProvider.getSystemJavaCompiler().run(null, null, null, "-Xlint:all", "-Werror",
                    "-cp", classes, "-d", folder.toString(), source.toString());
            same("exit code of the example's compiler", code, 0);
            if (code == 0) {
                same("output of the example", block(readme, "text", 0), output(folder));
            }
        } finally {
            delete(folder);
        }
    }

    private static String output(Path folder) throws Exception {
        PrintStream usual = System.out;
        ByteArrayOutputStream bytes = new ByteArrayOutputStream();
        try (URLClassLoader loader = new URLClassLoader(new URL[] {folder.toUri().toURL()});
                PrintStream caught = new PrintStream(bytes, true, StandardCharsets.UTF_8)) {
            System.setOut(caught);
            Method main = loader.loadClass("Example").getMethod("main", String[].class);
            main.invoke(null, (Object) new String[0]);
        } finally {
            System.setOut(usual);
        }
        return bytes.toString(StandardCharsets.UTF_8).replace(System.lineSeparator(), "\n");
    }

    private static void delete(Path folder) throws IOException {
        try (Stream<Path> paths = Files.walk(folder)) {
            for (Path path : paths.sorted(Comparator.reverseOrder()).toList()) {
                Files.delete(path);
            }
        }
    }

    /** Returns what stands in a fenced block of a language, the first one having the index 0. */
    private static String block(String readme, String language, int index) {
        Matcher matcher = Pattern.compile("```" + language + "\n(.*?)```", Pattern.DOTALL).matcher(readme);
        for (int i = 0; matcher.find(); i++) {
            if (i == index) {
                return matcher.group(1);
            }
        }
        return "";
    }

    /** The calls are those of the document, with its parameters and the numbers of their promises. */
    private static void checkCalls(String readme, String document) {
        TreeSet<String> due = new TreeSet<>();
        Matcher promise = Pattern.compile("## Promise (\\d+): \\w+\n\n`\\w+ (\\w+)\\(([^)]*)\\)").matcher(document);
        while (promise.find()) {
            due.add(promise.group(2) + "(" + promise.group(3).replaceAll("\\w+ (\\w+)", "$1") + ") " + promise.group(1));
        }
        TreeSet<String> got = new TreeSet<>();
        Matcher row = Pattern.compile("\n\\| `([^`]+)` \\| (\\d+) \\|").matcher(readme);
        while (row.find()) {
            got.add(row.group(1) + " " + row.group(2));
        }
        same("the calls", got, due);
        same("number of calls but for the constructor", due.size(), 32);
    }

    /** Each exception has the methods that the class declares it for. */
    private static void checkExceptions(String readme) {
        Map<String, TreeSet<String>> due = new TreeMap<>();
        for (Method method : FallingBlocks.class.getDeclaredMethods()) {
            for (Class<?> type : Modifier.isPublic(method.getModifiers()) ? method.getExceptionTypes() : new Class<?>[0]) {
                due.computeIfAbsent(type.getSimpleName(), name -> new TreeSet<>()).add(method.getName());
            }
        }
        Map<String, TreeSet<String>> got = new TreeMap<>();
        String exception = "";
        Matcher row = Pattern.compile("\n\\| (`(\\w+Exception)` )?\\| ((?:`\\w+` )+)\\|").matcher(readme);
        while (row.find()) {
            exception = row.group(2) == null ? exception : row.group(2);
            List<String> methods = List.of(row.group(3).trim().replace("`", "").split(" "));
            got.computeIfAbsent(exception, name -> new TreeSet<>()).addAll(methods);
        }
        same("the exceptions", got, due);
    }

    /** Each test is told of, and the run that is shown is one of them all. */
    private static void checkTests(String readme) throws IOException {
        StringBuilder due = new StringBuilder("all answers are as due\nFallingBlocksRuns: passed\n");
        int count = 1;
        try (Stream<Path> paths = Files.list(TESTS)) {
            for (Path path : paths.filter(path -> path.toString().endsWith("Test.java")).sorted().toList()) {
                String name = path.getFileName().toString().replace(".java", "");
                same("a line about " + name, readme.contains("\n- `" + name + "`: "), true);
                due.append(name).append(": passed\n");
                count++;
            }
        }
        due.append(count).append(" passed, 0 failed\n");
        same("the run that is shown", block(readme, "text", 1), due.toString());
    }
}
