import java.io.IOException;
import java.lang.reflect.Method;
import java.lang.reflect.Modifier;
import java.net.URL;
import java.net.URLClassLoader;
import java.nio.file.Files;
import java.nio.file.Path;
import java.util.ArrayList;
import java.util.List;
import java.util.regex.Matcher;
import java.util.regex.Pattern;
import javax.tools.JavaCompiler;
import javax.tools.ToolProvider;

/** The example of README.md, taken from there and compiled, answers what README.md says behind each call. */
public final class ReadmeTest {
    private static final Pattern CALL = Pattern.compile("(desk\\.\\w+\\(.*?\\)); *// (-?\\d+|true|false)(:.*)?");

    private final List<String> calls = new ArrayList<>();
    private final List<String> dues = new ArrayList<>();
    private final StringBuilder program = new StringBuilder();

    public static void main(String[] args) throws Exception {
        List<String> example = exampleOf(Files.readAllLines(Path.of("README.md")));
        everyMethodIsShown(String.join("\n", example));
        ReadmeTest test = new ReadmeTest();
        test.translate(example);
        test.compare(answersOf(test.program.toString()));
        Check.end("ReadmeTest");
    }

    private static List<String> exampleOf(List<String> readme) {
        int from = readme.indexOf("```java");
        Check.due("README.md has an example", from >= 0, true);
        List<String> behind = readme.subList(from + 1, readme.size());
        return behind.subList(0, Math.max(0, behind.indexOf("```")));
    }

    private static void everyMethodIsShown(String example) {
        for (Method method : ScriptDesk.class.getDeclaredMethods()) {
            if (Modifier.isPublic(method.getModifiers())) {
                String call = "desk." + method.getName() + "(";
                Check.due("README.md shows " + call, example.contains(call), true);
            }
        }
    }

    /** A call with an answer behind it becomes one that keeps the answer; all else stays as it is. */
    private void translate(List<String> example) {
        program.append("public final class ReadmeExample {\n");
        program.append("public static void show(java.util.List<Object> answers) {\n");
        for (String line : example) {
            Matcher call = CALL.matcher(line);
            if (call.matches()) {
                calls.add(call.group(1));
                dues.add(call.group(2));
                program.append("answers.add(").append(call.group(1)).append(");\n");
            } else {
                boolean silent = !line.startsWith("desk.") || line.startsWith("desk.secret(");
                Check.due("README.md tells an answer for " + line, silent, true);
                program.append(line).append('\n');
            }
        }
        program.append("}\n}\n");
    }

    private static List<Object> answersOf(String program) throws Exception {
        Path folder = Files.createTempDirectory("readme");
        try {
            return compiledAnswers(program, folder);
        } finally {
            remove(folder);
        }
    }

    private static List<Object> compiledAnswers(String program, Path folder) throws Exception {
        Path source = Files.writeString(folder.resolve("ReadmeExample.java"), program);
        JavaCompiler compiler = ToolProvider.getSystemJavaCompiler();
        String path = System.getProperty("java.class.path");
        int failed = compiler.run(null, null, null, "-cp", path, "-d", folder.toString(), source.toString());
        Check.due("README.md's example compiles", failed, 0);
        List<Object> answers = new ArrayList<>();
        if (failed == 0) {
            try (URLClassLoader loader = new URLClassLoader(new URL[] {folder.toUri().toURL()})) {
                loader.loadClass("ReadmeExample").getMethod("show", List.class).invoke(null, answers);
            }
        }
        return answers;
    }

    private static void remove(Path folder) throws IOException {
        Files.deleteIfExists(folder.resolve("ReadmeExample.java"));
        Files.deleteIfExists(folder.resolve("ReadmeExample.class"));
        Files.delete(folder);
    }

    private void compare(List<Object> answers) {
        Check.due("answers of README.md's example", answers.size(), calls.size());
        for (int i = 0; i < Math.min(answers.size(), calls.size()); i++) {
            String call = "README.md, answer " + (i + 1) + ", " + calls.get(i);
            Check.due(call, String.valueOf(answers.get(i)), dues.get(i));
        }
    }
}
