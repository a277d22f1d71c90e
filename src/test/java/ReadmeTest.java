import java.io.IOException;
import java.lang.reflect.Method;
import java.net.URL;
import java.net.URLClassLoader;
import java.nio.file.Files;
import java.nio.file.Path;
import java.util.ArrayList;
import java.util.List;
import java.util.Map;
import java.util.TreeMap;
import java.util.TreeSet;
import java.util.regex.Matcher;
import java.util.regex.Pattern;
import java.util.stream.Stream;
import javax.tools.ToolProvider;

/** README.md tells of the program what is so: its example is run, its table is held against the face. */
public final class ReadmeTest {
    private static final Path README = Path.of("README.md");
    private static final Path TESTS = Path.of("src/test/java");
    private static final Path BUILD = Path.of("build/ci/readme");
    // A call of the example, perhaps kept in a variable, with its answer behind it.
    private static final Pattern CALL = Pattern.compile("(?:int (\\w+) = )?(herd\\.[^;]*);\\s*// (-?\\d+|throws \\w+)(?:: .*)?");
    private static final Pattern ROW = Pattern.compile("\\| `(\\w+)\\((.*?)\\)` \\| .* \\| ?(.*?) ?\\|");
    private static final Pattern TEST = Pattern.compile("`(\\w+Test)`");

    private final Check check = new Check();
    private final List<String> lines;

    private ReadmeTest() throws IOException {
        lines = Files.readAllLines(README);
    }

    public static void main(String[] args) throws Exception {
        ReadmeTest test = new ReadmeTest();
        test.example();
        test.table();
        test.listOfTests();
        test.check.end();
    }

    private void example() throws Exception {
        StringBuilder body = new StringBuilder();
        List<String> calls = new ArrayList<>();
        List<String> due = new ArrayList<>();
        for (String line : exampleLines()) {
            Matcher call = CALL.matcher(line);
            if (call.matches()) {
                calls.add(call.group(2));
                due.add(call.group(3));
                body.append(call.group(1) == null ? noted(call.group(2)) : line + "\n" + noted(call.group(1)));
            } else {
                check.isTrue("an answer stands behind: " + line, line.startsWith("HerdKinship herd = ") || !line.contains("herd."));
                body.append(line).append('\n');
            }
        }
        List<?> got = answersOf(body.toString());
        for (int i = 0; i < due.size(); i++) {
            check.text("README.md: " + calls.get(i), due.get(i), String.valueOf(got.get(i)));
        }
    }

    private List<String> exampleLines() {
        int start = lines.indexOf("```java") + 1;
        int end = start + lines.subList(start, lines.size()).indexOf("```");
        return lines.subList(start, end);
    }

    private static String noted(String expression) {
        return "try { answers.add(String.valueOf(" + expression + ")); } "
            + "catch (RuntimeException e) { answers.add(\"throws \" + e.getClass().getSimpleName()); }\n";
    }

    private static List<?> answersOf(String body) throws Exception {
        Path source = Files.createDirectories(BUILD).resolve("ReadmeExample.java");
        Files.writeString(source, "public final class ReadmeExample {\n"
            + "public static java.util.List<String> answers() {\n"
            + "java.util.List<String> answers = new java.util.ArrayList<>();\n" + body + "return answers;\n}\n}\n");
        String path = System.getProperty("java.class.path");
        int code = ToolProvider.getSystemJavaCompiler()
            .run(null, null, null, "-cp", path, "-d", BUILD.toString(), source.toString());
        if (code != 0) {
            throw new AssertionError("the example of README.md can't be compiled");
        }
        try (URLClassLoader loader = new URLClassLoader(new URL[] {BUILD.toUri().toURL()})) {
            return (List<?>) loader.loadClass("ReadmeExample").getMethod("answers").invoke(null);
        }
    }

    /** Every call of the face has one row, with as many arguments and the exceptions in their order. */
    private void table() {
        Map<String, String> due = new TreeMap<>();
        for (Method method : HerdKinship.class.getMethods()) {
            if (method.getDeclaringClass() == HerdKinship.class) {
                due.put(method.getName(), method.getParameterCount() + " " + exceptionsOf(method));
            }
        }
        Map<String, String> told = new TreeMap<>();
        for (String line : lines) {
            Matcher row = ROW.matcher(line);
            if (row.matches()) {
                int count = row.group(2).isEmpty() ? 0 : row.group(2).split(", ").length;
                String before = told.put(row.group(1), count + " " + row.group(3).replace("`", ""));
                check.isTrue(row.group(1) + " has one row", before == null);
            }
        }
        check.text("the table of README.md", due.toString(), told.toString());
    }

    private static String exceptionsOf(Method method) {
        List<String> names = new ArrayList<>();
        for (Class<?> kind : method.getExceptionTypes()) {
            names.add(kind.getSimpleName());
        }
        return String.join(", ", names);
    }

    private void listOfTests() throws IOException {
        TreeSet<String> due = new TreeSet<>();
        try (Stream<Path> files = Files.list(TESTS)) {
            files.map(file -> file.getFileName().toString().replace(".java", ""))
                .filter(name -> name.endsWith("Test"))
                .forEach(due::add);
        }
        TreeSet<String> told = new TreeSet<>();
        for (String line : lines) {
            Matcher test = TEST.matcher(line);
            while (test.find()) {
                told.add(test.group(1));
            }
        }
        check.text("the tests that README.md names", due.toString(), told.toString());
    }
}
