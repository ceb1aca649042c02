import java.io.IOException;
import java.lang.reflect.Method;
import java.lang.reflect.Modifier;
import java.net.URL;
import java.net.URLClassLoader;
import java.nio.file.Files;
import java.nio.file.Path;
import java.util.ArrayList;
import java.util.List;
import java.util.regex.Matcher;
import java.util.regex.Pattern;
import javax.tools.ToolProvider;

/** README.md: the lines that it shows compile, each answers what stands beside it, and every call is shown. */
public final class ReadmeTest {
    private static final Pattern ANSWERED =
        Pattern.compile("(?:int (\\w+) = )?(x\\.\\w+\\(.*\\)); +// (-?\\d+|NONE|true|false)(?:: .+)?");

    private static final List<String> calls = new ArrayList<>();
    private static final List<String> wanted = new ArrayList<>();

    public static void main(String[] args) throws Exception {
        String program = program(shown());
        Object[] answers = run(program);
        Due.test("README.md: each line has its answer", () -> compare(answers));
        Due.test("README.md: every call of the face is shown", ReadmeTest::allAreShown);
        Due.end();
    }

    private static List<String> shown() throws IOException {
        List<String> lines = new ArrayList<>();
        boolean inside = false;
        for (String line : Files.readAllLines(Path.of("README.md"))) {
            if (line.startsWith("```")) {
                inside = line.equals("```java");
            } else if (inside) {
                lines.add(line);
            }
        }
        return lines;
    }

    /** A class that makes the calls and gathers what they answer. */
    private static String program(List<String> lines) {
        StringBuilder text = new StringBuilder("public final class Shown { public static Object[] answers() {\n");
        text.append("java.util.List<Object> all = new java.util.ArrayList<>();\n");
        for (String line : lines) {
            Matcher found = ANSWERED.matcher(line);
            if (!found.matches()) {
                Due.yes(line + " makes an object and nothing else", line.equals("CatchShares x = new CatchShares();"));
                text.append(line).append('\n');
            } else {
                String name = found.group(1);
                text.append(name == null ? "" : line + "\n");
                text.append("all.add(").append(name == null ? found.group(2) : name).append(");\n");
                calls.add(found.group(2));
                wanted.add(found.group(3).equals("NONE") ? "-1" : found.group(3));
            }
        }
        return text.append("return all.toArray(); } }\n").toString();
    }

    private static Object[] run(String program) throws Exception {
        Path folder = Files.createTempDirectory("readme");
        Path source = folder.resolve("Shown.java");
        try {
            Files.writeString(source, program);
            int failed = ToolProvider.getSystemJavaCompiler().run(null, null, null,
                "-cp", System.getProperty("java.class.path"), "-d", folder.toString(), source.toString());
            Due.is("compiling the lines", failed, 0);
            try (URLClassLoader loader = new URLClassLoader(new URL[] {folder.toUri().toURL()})) {
                return (Object[]) loader.loadClass("Shown").getMethod("answers").invoke(null);
            }
        } finally {
            Files.deleteIfExists(folder.resolve("Shown.class"));
            Files.deleteIfExists(source);
            Files.deleteIfExists(folder);
        }
    }

    private static void compare(Object[] answers) {
        Due.is("answers", answers.length, wanted.size());
        for (int i = 0; i < answers.length; i++) {
            Due.yes(calls.get(i) + " answered " + answers[i] + ", README.md says " + wanted.get(i),
                answers[i].toString().equals(wanted.get(i)));
        }
    }

    private static void allAreShown() {
        for (Method method : CatchShares.class.getDeclaredMethods()) {
            if (Modifier.isPublic(method.getModifiers())) {
                boolean shown = false;
                for (String call : calls) {
                    shown |= call.startsWith("x." + method.getName() + "(");
                }
                Due.yes(method.getName() + " is shown", shown);
            }
        }
    }
}
