import java.io.IOException;
import java.lang.reflect.Method;
import java.net.URL;
import java.net.URLClassLoader;
import java.nio.file.Files;
import java.nio.file.Path;
import java.util.ArrayList;
import java.util.List;
import java.util.regex.Matcher;
import java.util.regex.Pattern;
import java.util.stream.Stream;
import javax.tools.ToolProvider;

/**
 * README.md holds: its examples are compiled and run, and each line of them that makes an int or a
 * long and ends in a comment has the answer in that comment.
 */
public final class ReadmeTest {
    private static final int EXAMPLES = 2;
    private static final Pattern EXAMPLE = Pattern.compile("```java\n(.*?)```", Pattern.DOTALL);
    private static final Pattern ANSWER = Pattern.compile("(?:int|long) (\\w+) = .*; +// (\\S+)");

    private final Path folder;

    private ReadmeTest(Path folder) {
        this.folder = folder;
    }

    public static void main(String[] args) throws IOException, ReflectiveOperationException {
        String readme = Files.readString(Path.of("README.md"));
        namesEveryCall(readme);
        namesEveryTestAndHelper(readme);
        ReadmeTest test = new ReadmeTest(Files.createTempDirectory("readme"));
        try {
            test.examplesAnswerAsTheySay(readme);
        } finally {
            test.tidy();
        }
        Checks.end();
    }

    private static void namesEveryCall(String readme) {
        for (Method method : DiskMachine.class.getMethods()) {
            if (method.getDeclaringClass() == DiskMachine.class) {
                has(readme, "`" + method.getName() + "(");
            }
        }
    }

    private static void namesEveryTestAndHelper(String readme) throws IOException {
        try (Stream<Path> files = Files.list(Path.of("src/test/java"))) {
            files.forEach(file -> {
                String name = file.getFileName().toString();
                has(readme, "`" + name.replace(".java", "") + "`");
            });
        }
    }

    private static void has(String readme, String words) {
        Checks.same("README.md has " + words, readme.contains(words) ? 1 : 0, 1);
    }

    private void examplesAnswerAsTheySay(String readme)
            throws IOException, ReflectiveOperationException {
        Matcher example = EXAMPLE.matcher(readme);
        int found = 0;
        while (example.find()) {
            found++;
            tryExample("Example" + found, example.group(1));
        }
        Checks.same("examples", found, EXAMPLES);
    }

    private void tryExample(String name, String code)
            throws IOException, ReflectiveOperationException {
        List<String> variables = new ArrayList<>();
        List<String> due = new ArrayList<>();
        for (String line : code.split("\n")) {
            Matcher answer = ANSWER.matcher(line);
            if (answer.matches()) {
                variables.add(answer.group(1));
                due.add(answer.group(2));
            }
        }
        Checks.same(name + " has answers", variables.isEmpty() ? 0 : 1, 1);
        long[][] rows = run(name, "public final class " + name + " {\n"
            + "public static long[][] answers() {\n" + code
            + "return new long[][] {" + row(variables) + ", " + row(due) + "};\n}\n}\n");
        for (int i = 0; i < variables.size(); i++) {
            Checks.same(name + ", " + variables.get(i), rows[0][i], rows[1][i]);
        }
    }

    private static String row(List<String> values) {
        return "{" + String.join(", ", values) + "}";
    }

    private long[][] run(String name, String source)
            throws IOException, ReflectiveOperationException {
        Path file = folder.resolve(name + ".java");
        Files.writeString(file, source);
        int refused = ToolProvider.getSystemJavaCompiler().run(null, null, null, "-cp",
            System.getProperty("java.class.path"), "-d", folder.toString(), file.toString());
        Checks.same(name + " compiles", refused, 0);
        try (URLClassLoader loader = new URLClassLoader(new URL[] {folder.toUri().toURL()})) {
            return (long[][]) loader.loadClass(name).getMethod("answers").invoke(null);
        }
    }

    private void tidy() throws IOException {
        List<Path> left;
        try (Stream<Path> files = Files.list(folder)) {
            left = files.toList();
        }
        for (Path file : left) {
            Files.delete(file);
        }
        Files.delete(folder);
    }
}
