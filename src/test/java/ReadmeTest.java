import java.io.IOException;
import java.lang.reflect.Method;
import java.lang.reflect.Modifier;
import java.net.URL;
import java.net.URLClassLoader;
import java.nio.file.Files;
import java.nio.file.Path;
import java.util.ArrayList;
import java.util.List;
import java.util.regex.Matcher;
import java.util.regex.Pattern;
import javax.tools.ToolProvider;

/** The examples of README.md answer what their comments say, and each call of the face is told there. */
public final class ReadmeTest {
    private static final Pattern EXAMPLE = Pattern.compile("(?s)```java\n(.*?)```");
    private static final Pattern CALL = Pattern.compile("(.*?);\\s*// (answers|throws) (-?\\w+).*");

    public static void main(String[] args) throws Exception {
        String readme = Files.readString(Path.of("README.md"));
        List<String> due = new ArrayList<>();
        StringBuilder calls = new StringBuilder();
        for (Matcher m = EXAMPLE.matcher(readme); m.find();) {
            calls.append("{\n").append(asCalls(m.group(1), due)).append("}\n");
        }
        List<?> got = answers(calls.toString());
        Expect.holds("README.md has examples with answers", due.size() >= 10);
        Expect.is("answers", got.size(), due.size());
        for (int i = 0; i < due.size(); i++) {
            Expect.holds("README.md says " + due.get(i) + ", answered is " + got.get(i), due.get(i).equals(got.get(i)));
        }
        callsAreTold(readme);
        Expect.holds("how the tests are run is told", readme.contains("\n.ci/run\n"));
        Expect.end();
    }

    /** The example with its answers taken into a list; what they should be is added to due. */
    private static String asCalls(String example, List<String> due) {
        StringBuilder calls = new StringBuilder();
        for (String line : example.split("\n")) {
            Matcher m = CALL.matcher(line);
            if (!m.matches()) {
                calls.append(line).append('\n');
                continue;
            }
            String call = m.group(1).trim();
            due.add(call + " " + m.group(2) + " " + m.group(3));
            calls.append("try { got.add(\"").append(call).append(" answers \" + ").append(call)
                    .append("); } catch (RuntimeException e) { got.add(\"").append(call)
                    .append(" throws \" + e.getClass().getSimpleName()); }\n");
        }
        return calls.toString();
    }

    private static List<?> answers(String calls) throws IOException, ReflectiveOperationException {
        Path folder = Files.createTempDirectory("readme");
        Path file = folder.resolve("Example.java");
        Files.writeString(file, "public final class Example { public static java.util.List<String> answers() {\n"
                + "java.util.List<String> got = new java.util.ArrayList<>();\n" + calls + "return got; } }\n");
        int result = ToolProvider.getSystemJavaCompiler().run(null, null, null,
                "-cp", System.getProperty("java.class.path"), "-d", folder.toString(), file.toString());
        Expect.is("javac of the examples", result, 0);
        try (URLClassLoader loader = new URLClassLoader(new URL[] {folder.toUri().toURL()})) {
            return (List<?>) loader.loadClass("Example").getMethod("answers").invoke(null);
        } finally {
            Files.delete(file);
            Files.deleteIfExists(folder.resolve("Example.class"));
            Files.delete(folder);
        }
    }

    private static void callsAreTold(String readme) {
        for (Method m : ShaderMachine.class.getDeclaredMethods()) {
            boolean isTold = readme.contains("`" + m.getName() + "(");
            Expect.holds(m.getName() + " is told", isTold || !Modifier.isPublic(m.getModifiers()));
        }
    }
}
