import java.io.IOException;
import java.lang.reflect.Method;
import java.lang.reflect.Modifier;
import java.net.URL;
import java.net.URLClassLoader;
import java.nio.file.Files;
import java.nio.file.Path;
import java.util.ArrayList;
import java.util.List;
import java.util.regex.Matcher;
import java.util.regex.Pattern;
import javax.tools.ToolProvider;

/** The example of README.md compiles as it stands there, has every call, and tells the true answers. */
public final class ReadmeTest {
    private static final Runs RUNS = new Runs("ReadmeTest");
    private static final Pattern BLOCK = Pattern.compile("```java\n(.*?)```", Pattern.DOTALL);
    private static final Pattern ANSWERED = Pattern.compile("(rover\\.\\w+\\(.*\\)); *// -> ([^: ]+)(:.*)?");

    public static void main(String[] args) throws IOException, ReflectiveOperationException {
        String example = example();
        List<String> calls = new ArrayList<>();
        List<String> told = new ArrayList<>();
        StringBuilder body = new StringBuilder();
        for (String line : example.split("\n")) {
            Matcher matcher = ANSWERED.matcher(line);
            if (matcher.matches()) {
                calls.add(matcher.group(1));
                told.add(matcher.group(2));
                body.append("answers.add(").append(matcher.group(1)).append(");\n");
            } else {
                RUNS.due("an answer that is understood in: " + line, line.contains("->"), false);
                body.append(line).append('\n');
            }
        }
        List<Object> answers = run(body.toString());
        RUNS.due("number of answers", answers.size(), told.size());
        for (int k = 0; k < Math.min(answers.size(), told.size()); k++) {
            RUNS.due(calls.get(k), answers.get(k), told.get(k));
        }
        lookForCalls(example);
        RUNS.end();
    }

    private static String example() throws IOException {
        Matcher matcher = BLOCK.matcher(Files.readString(Path.of("README.md")));
        boolean found = matcher.find();
        RUNS.due("README.md has an example", found, true);
        return found ? matcher.group(1) : "";
    }

    private static List<Object> run(String body) throws IOException, ReflectiveOperationException {
        List<Object> answers = new ArrayList<>();
        Path place = Files.createTempDirectory("readme");
        Path source = place.resolve("Example.java");
        Files.writeString(source, "public class Example { public static void run(java.util.List<Object> answers) {\n"
            + body + "} }\n");
        int result = ToolProvider.getSystemJavaCompiler().run(null, null, null, "-d", place.toString(),
            "-cp", System.getProperty("java.class.path"), source.toString());
        RUNS.due("compiling the example", result, 0);
        if (result == 0) {
            try (URLClassLoader loader = new URLClassLoader(new URL[] {place.toUri().toURL()})) {
                loader.loadClass("Example").getMethod("run", List.class).invoke(null, answers);
            }
        }
        Files.deleteIfExists(place.resolve("Example.class"));
        Files.delete(source);
        Files.delete(place);
        return answers;
    }

    private static void lookForCalls(String example) {
        for (Method method : RoverMinutes.class.getDeclaredMethods()) {
            if (Modifier.isPublic(method.getModifiers())) {
                String call = "rover." + method.getName() + "(";
                RUNS.due("the example has " + call + ")", example.contains(call), true);
            }
        }
    }
}
