import java.io.IOException;
import java.net.URL;
import java.net.URLClassLoader;
import java.nio.file.Files;
import java.nio.file.Path;
import java.util.ArrayList;
import java.util.List;
import java.util.function.Supplier;
import java.util.regex.Matcher;
import java.util.regex.Pattern;
import javax.tools.ToolProvider;

/** The example of README.md is Java, and each of its calls answers what the comment behind it begins with. */
public final class ReadmeTest {
    private static final Pattern CALL = Pattern.compile("(x\\..*);\\s+// (-?\\w+).*");

    private final List<String> calls = new ArrayList<>();
    private final List<String> due = new ArrayList<>();
    private final StringBuilder body = new StringBuilder();

    public static void main(String[] args) throws IOException, ReflectiveOperationException {
        ReadmeTest test = new ReadmeTest();
        for (String line : example(Files.readAllLines(Path.of("README.md")))) {
            test.take(line);
        }
        Expect.same("calls in the example", test.calls.size() > 20, true);
        List<?> answers = test.run();
        for (int i = 0; i < answers.size(); i++) {
            if (!answers.get(i).toString().equals(test.due.get(i))) {
                Expect.tell(test.calls.get(i) + " answered " + answers.get(i) + ", README.md says " + test.due.get(i));
            }
        }
        Expect.finish();
    }

    private static List<String> example(List<String> readme) {
        int begin = readme.indexOf("```java") + 1;
        List<String> rest = readme.subList(begin, readme.size());
        return rest.subList(0, rest.indexOf("```"));
    }

    private void take(String line) {
        Matcher call = CALL.matcher(line);
        if (call.matches()) {
            calls.add(call.group(1));
            due.add(call.group(2));
            body.append("answers.add(").append(call.group(1)).append(");\n");
        } else if (line.startsWith("x.")) {
            Expect.tell("README.md does not say what it answers: " + line);
        } else {
            body.append(line).append('\n');
        }
    }

    private List<?> run() throws IOException, ReflectiveOperationException {
        Path folder = Files.createTempDirectory("readme");
        Path source = folder.resolve("Example.java");
        Path compiled = folder.resolve("Example.class");
        try {
            Files.writeString(source, "public final class Example implements java.util.function.Supplier<Object> {\n"
                    + "public Object get() {\n"
                    + "java.util.List<Object> answers = new java.util.ArrayList<>();\n" + body
                    + "return answers;\n}\n}\n");
            String classPath = System.getProperty("java.class.path");
            ToolProvider.getSystemJavaCompiler().run(null, null, null, "-cp", classPath, source.toString());
            try (URLClassLoader loader = new URLClassLoader(new URL[] {folder.toUri().toURL()})) {
                Class<?> example = loader.loadClass("Example");
                return (List<?>) ((Supplier<?>) example.getDeclaredConstructor().newInstance()).get();
            }
        } finally {
            Files.deleteIfExists(compiled);
            Files.deleteIfExists(source);
            Files.deleteIfExists(folder);
        }
    }
}
