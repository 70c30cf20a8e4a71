import java.io.IOException;
import java.lang.reflect.Method;
import java.lang.reflect.Modifier;
import java.net.URL;
import java.net.URLClassLoader;
import java.nio.file.Files;
import java.nio.file.Path;
import java.util.ArrayList;
import java.util.List;
import java.util.Set;
import java.util.TreeSet;
import java.util.regex.Matcher;
import java.util.regex.Pattern;
import java.util.stream.Collectors;
import java.util.stream.Stream;
import javax.tools.ToolProvider;

/** README.md says what is so: its example is compiled and run, its tables are held against what there is. */
final class ReadmeTest {
    private static final Path README = Path.of("README.md");
    private static final Path TESTS = Path.of("src/test/java");
    private static final Path COMMAND = Path.of(".ci/run");
    private static final int LEAST_CALLS = 15;
    private static final Pattern BLOCK = Pattern.compile("(?ms)^```java\n(.*?)^```$");
    private static final Pattern CALL = Pattern.compile("((?:x\\.|read\\()[^;]*); +// (-?\\d+|true|false|NoSuchElementException): .+");
    private static final Pattern NO_CALL = Pattern.compile("CashDeriver x = new CashDeriver\\(\\);|String text = \"[^\"]*\";");
    private static final Pattern WORD = Pattern.compile("\\w+");

    public static void main(String[] args) throws IOException, ReflectiveOperationException {
        String readme = Files.readString(README);
        checkExample(readme);
        same("calls", namesInTable(readme, "call"), callsOfTheFace());
        same("classes inside", namesInTable(readme, "class inside"), classesInside());
        same("tests", namesInTable(readme, "test"), filesEndingIn("Test.java"));
        same("classes of sentences", namesInTable(readme, "class"), filesEndingIn("Edges.java"));
        checkCommand(readme);
        Checks.finish();
    }

    private static void same(String what, Set<String> said, Set<String> there) {
        Checks.due("README.md names the " + what + " " + said + ", there are " + there + ": alike", said.equals(there), true);
    }

    private static void checkExample(String readme) throws IOException, ReflectiveOperationException {
        List<String> blocks = BLOCK.matcher(readme).results().map(found -> found.group(1)).toList();
        Checks.due("blocks of the example", blocks.size(), 2);
        if (blocks.size() != 2) {
            return;
        }
        List<String> calls = new ArrayList<>();
        List<String> due = new ArrayList<>();
        String code = exampleClass(blocks.get(0), blocks.get(1), calls, due);
        Path folder = Files.createTempDirectory("readme");
        try {
            compare(calls, due, answersOf(folder, code));
        } finally {
            remove(folder);
        }
    }

    /** The first block is a method; of the second each line with a remark is asked, and others stay as they are. */
    private static String exampleClass(String helper, String lines, List<String> calls, List<String> due) {
        StringBuilder code = new StringBuilder("public final class Example {\n").append(helper);
        code.append("public static java.util.List<String> answers() {\n");
        code.append("java.util.List<String> answers = new java.util.ArrayList<>();\n");
        for (String line : lines.lines().toList()) {
            Matcher call = CALL.matcher(line);
            if (call.matches()) {
                calls.add(call.group(1));
                due.add(call.group(2));
                code.append("try { answers.add(String.valueOf(").append(call.group(1)).append(")); }");
                code.append(" catch (RuntimeException e) { answers.add(e.getClass().getSimpleName()); }\n");
            } else {
                Checks.due("a line that is no call with its answer is one of the two that make things: " + line, NO_CALL.matcher(line).matches(), true);
                code.append(line).append('\n');
            }
        }
        return code.append("return answers;\n}\n}\n").toString();
    }

    private static List<String> answersOf(Path folder, String code) throws IOException, ReflectiveOperationException {
        Path source = Files.writeString(folder.resolve("Example.java"), code);
        int result = ToolProvider.getSystemJavaCompiler().run(null, null, null,
            "-cp", System.getProperty("java.class.path"), "-d", folder.toString(), source.toString());
        Checks.due("javac of the example", result, 0);
        List<String> answers = new ArrayList<>();
        if (result == 0) {
            try (URLClassLoader loader = new URLClassLoader(new URL[] {folder.toUri().toURL()})) {
                for (Object answer : (List<?>) loader.loadClass("Example").getMethod("answers").invoke(null)) {
                    answers.add(String.valueOf(answer));
                }
            }
        }
        return answers;
    }

    private static void compare(List<String> calls, List<String> due, List<String> answers) {
        Checks.due("answers of the example", answers.size(), calls.size());
        Checks.due("calls of the example: many", calls.size() >= LEAST_CALLS, true);
        for (int n = 0; n < Math.min(calls.size(), answers.size()); n++) {
            String told = "README.md: " + calls.get(n) + " answers " + answers.get(n) + ", its remark is " + due.get(n);
            Checks.due(told + ": alike", answers.get(n).equals(due.get(n)), true);
        }
    }

    private static void remove(Path folder) throws IOException {
        try (Stream<Path> files = Files.list(folder)) {
            for (Path file : files.toList()) {
                Files.delete(file);
            }
        }
        Files.delete(folder);
    }

    /** The words in the first column of the table that has this head there. */
    private static Set<String> namesInTable(String readme, String head) {
        Set<String> names = new TreeSet<>();
        Matcher table = Pattern.compile("(?m)^\\| " + head + " \\|.*\n\\| --- \\|.*\n((?:\\|.*\n)+)").matcher(readme);
        if (table.find()) {
            for (String row : table.group(1).lines().toList()) {
                WORD.matcher(row.split("\\|")[1]).results().forEach(word -> names.add(word.group()));
            }
        }
        return names;
    }

    private static Set<String> callsOfTheFace() {
        Set<String> names = new TreeSet<>();
        for (Method method : CashDeriver.class.getDeclaredMethods()) {
            if (Modifier.isPublic(method.getModifiers())) {
                names.add(method.getName());
            }
        }
        return names;
    }

    private static Set<String> classesInside() {
        return Stream.of(CashDeriver.class.getDeclaredClasses()).map(Class::getSimpleName).collect(Collectors.toCollection(TreeSet::new));
    }

    private static Set<String> filesEndingIn(String end) throws IOException {
        try (Stream<Path> files = Files.list(TESTS)) {
            return files.map(file -> file.getFileName().toString()).filter(name -> name.endsWith(end))
                .map(name -> name.substring(0, name.length() - ".java".length())).collect(Collectors.toCollection(TreeSet::new));
        }
    }

    private static void checkCommand(String readme) throws IOException {
        Checks.due("README.md tells the command", readme.contains("\n    " + COMMAND + "\n"), true);
        Checks.due("the command can be run", Files.isExecutable(COMMAND), true);
        String script = Files.readString(COMMAND);
        Checks.due("the command runs the project's tests", script.contains(TESTS + "/*Test.java"), true);
        Checks.due("the command runs the shared tests", script.contains("../shared/tests/*.java"), true);
    }
}
