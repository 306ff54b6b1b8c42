import java.io.File;
import java.lang.reflect.Method;
import java.lang.reflect.Modifier;
import java.net.URL;
import java.net.URLClassLoader;
import java.nio.file.Files;
import java.nio.file.Path;
import java.util.ArrayList;
import java.util.List;
import java.util.regex.Matcher;
import java.util.regex.Pattern;
import javax.tools.ToolProvider;

/** What README.md shows holds: each call of its blocks gives the answer behind it, and nothing of the face is left out. */
public final class ReadmeTest {
    private static final Check CHECK = new Check("ReadmeTest");
    private static final String FIRST = "Butterflyworks works = new Butterflyworks();";
    private static final Pattern CALL = Pattern.compile("(works\\.(\\w+)\\(.*\\)); +// ([^,]+)(?:, .*)?");

    public static void main(String[] args) throws Exception {
        List<String> lines = Files.readAllLines(Path.of("README.md"));
        List<String> calls = callsOf(lines);
        face(calls);
        answers(calls);
        tests(String.join("\n", lines));
        CHECK.end();
    }

    /** The lines of all blocks of Java, each of which begins with a new object. */
    private static List<String> callsOf(List<String> lines) {
        List<String> calls = new ArrayList<>();
        boolean isInside = false;
        for (int i = 0; i < lines.size(); i++) {
            String line = lines.get(i).trim();
            if (isInside && line.equals("```")) {
                isInside = false;
            } else if (isInside) {
                CHECK.isTrue("a call with its answer: " + line, line.equals(FIRST) || CALL.matcher(line).matches());
                calls.add(line);
            } else if (line.equals("```java")) {
                isInside = true;
                CHECK.due("the line " + (i + 2), i + 1 < lines.size() ? lines.get(i + 1) : "", FIRST);
            }
        }
        return calls;
    }

    private static void face(List<String> calls) {
        for (Method method : Butterflyworks.class.getDeclaredMethods()) {
            if (Modifier.isPublic(method.getModifiers())) {
                String start = "works." + method.getName() + "(";
                CHECK.isTrue(start + " is shown", calls.stream().anyMatch(call -> call.startsWith(start)));
            }
        }
    }

    /** A program is written of the calls, compiled, and run; it answers a line for each one. */
    private static void answers(List<String> calls) throws Exception {
        Path place = Files.createTempDirectory("readme");
        Path source = place.resolve("ReadmeRun.java");
        try {
            Files.writeString(source, program(calls));
            int compiled = ToolProvider.getSystemJavaCompiler().run(null, null, null,
                "-cp", System.getProperty("java.class.path"), "-d", place.toString(), source.toString());
            CHECK.due("what compiling says", compiled, 0);
            if (compiled == 0) {
                compare(calls, place);
            }
        } finally {
            for (File file : place.toFile().listFiles()) {
                file.delete();
            }
            Files.delete(place);
        }
    }

    private static String program(List<String> calls) {
        StringBuilder text = new StringBuilder("public class ReadmeRun { static Butterflyworks works;\n");
        StringBuilder all = new StringBuilder();
        int count = 0;
        for (String line : calls) {
            Matcher matcher = CALL.matcher(line);
            if (line.equals(FIRST)) {
                all.append("works = new Butterflyworks();\n");
            } else if (matcher.matches()) {
                text.append("static String call").append(count).append("() { try { return String.valueOf(").append(matcher.group(1))
                    .append("); } catch (RuntimeException e) { return \"throws \" + e.getClass().getSimpleName(); } }\n");
                all.append("all.add(call").append(count).append("());\n");
                count++;
            }
        }
        return text + "public static java.util.List<String> run() { java.util.List<String> all = new java.util.ArrayList<>();\n"
            + all + "return all; } }\n";
    }

    private static void compare(List<String> calls, Path place) throws Exception {
        try (URLClassLoader loader = new URLClassLoader(new URL[] {place.toUri().toURL()})) {
            List<?> got = (List<?>) loader.loadClass("ReadmeRun").getMethod("run").invoke(null);
            int count = 0;
            for (String line : calls) {
                Matcher matcher = CALL.matcher(line);
                if (matcher.matches() && count < got.size()) {
                    CHECK.due(matcher.group(1), got.get(count), matcher.group(3));
                    count++;
                }
            }
            CHECK.isTrue("all calls were made", count == got.size() && count > 41);
        }
    }

    /** How to run the tests is told, and each one is named. */
    private static void tests(String page) {
        CHECK.isTrue(".ci/run is told", page.contains("`.ci/run`"));
        for (File file : new File("src/test/java").listFiles()) {
            String name = file.getName().replace(".java", "");
            if (name.endsWith("Test")) {
                CHECK.isTrue(name + " is named", page.contains("`" + name + "`"));
            }
        }
    }
}
