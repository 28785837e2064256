import java.io.IOException;
import java.lang.reflect.Method;
import java.lang.reflect.Modifier;
import java.net.URL;
import java.net.URLClassLoader;
import java.nio.file.Files;
import java.nio.file.Path;
import java.util.ArrayList;
import java.util.List;
import java.util.regex.Matcher;
import java.util.regex.Pattern;
import java.util.stream.Stream;
import javax.tools.ToolProvider;

/** Whether README.md's example answers as it says there, and whether the page names all that is there. */
public final class ReadmeTest {
    private static final Pattern CODE = Pattern.compile("```java\n(.*?)```", Pattern.DOTALL);
    private static final Pattern CALL = Pattern.compile("(car\\..*);\\s*// ([^:]+)(: .*)?");

    public static void main(String[] args) throws IOException, ReflectiveOperationException {
        String page = Files.readString(Path.of("README.md"));
        exampleAnswersAsItSays(page);
        everyCallIsNamed(page);
        everyTestIsNamed(page);
        Checks.finish();
    }

    private static void exampleAnswersAsItSays(String page) throws IOException, ReflectiveOperationException {
        Matcher code = CODE.matcher(page);
        Checks.isTrue("an example", code.find());
        List<String> calls = new ArrayList<>();
        List<String> due = new ArrayList<>();
        StringBuilder body = new StringBuilder();
        for (String line : code.group(1).split("\n")) {
            Matcher call = CALL.matcher(line);
            if (call.matches()) {
                calls.add(call.group(1));
                due.add(call.group(2));
                body.append("answers.add(String.valueOf(").append(call.group(1)).append("));\n");
            } else {
                Checks.isTrue("an answer: " + line, !line.startsWith("car."));
                body.append(line).append('\n');
            }
        }
        List<String> answers = answersOf(body.toString());
        Checks.isTrue("calls of the example", !calls.isEmpty() && answers.size() == calls.size());
        for (int i = 0; i < answers.size(); i++) {
            Checks.isTrue(calls.get(i) + " answered " + answers.get(i) + ", " + due.get(i),
                    answers.get(i).equals(due.get(i)));
        }
    }

    private static List<String> answersOf(String body) throws IOException, ReflectiveOperationException {
        Path room = Files.createTempDirectory("readme");
        Path file = room.resolve("Example.java");
        Path compiled = room.resolve("Example.class");
        try {
            Files.writeString(file, "public final class Example {\n"
                    + "public static void run(java.util.List<String> answers) {\n" + body + "}\n}\n");
            int status = ToolProvider.getSystemJavaCompiler().run(null, null, null, "-d", room.toString(),
                    "-cp", System.getProperty("java.class.path"), file.toString());
            Checks.due("compiling the example", status, 0);
            List<String> answers = new ArrayList<>();
            try (URLClassLoader loader = new URLClassLoader(new URL[] {room.toUri().toURL()})) {
                loader.loadClass("Example").getMethod("run", List.class).invoke(null, answers);
            }
            return answers;
        } finally {
            Files.deleteIfExists(compiled);
            Files.deleteIfExists(file);
            Files.deleteIfExists(room);
        }
    }

    private static void everyCallIsNamed(String page) {
        for (Method method : ShiftMaps.class.getDeclaredMethods()) {
            boolean hidden = !Modifier.isPublic(method.getModifiers());
            Checks.isTrue("named: " + method, hidden || page.contains("`" + method.getName() + "`"));
        }
    }

    private static void everyTestIsNamed(String page) throws IOException {
        try (Stream<Path> files = Files.list(Path.of("src/test/java"))) {
            for (Path file : (Iterable<Path>) files::iterator) {
                String name = file.getFileName().toString().replace(".java", "");
                Checks.isTrue("named: " + name, !name.endsWith("Test") || page.contains(name));
            }
        }
    }
}
