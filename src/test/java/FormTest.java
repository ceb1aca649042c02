import java.io.IOException;
import java.lang.reflect.Field;
import java.lang.reflect.Method;
import java.lang.reflect.Modifier;
import java.nio.file.Files;
import java.nio.file.Path;
import java.util.ArrayList;
import java.util.List;
import java.util.Set;
import java.util.regex.Matcher;
import java.util.regex.Pattern;

/** The form of the program: the rules of LANGUAGE.md that can be read from its text or from its classes. */
public final class FormTest {
    private static final String SOURCE = "src/main/java/CatchShares.java";
    private static final int MOST_LINES = 60;
    private static final Set<String> LIBRARY = Set.of("Math.max", "Math.min", "Math.floorDiv", "Math.floorMod",
        "System.arraycopy");
    private static final String[] NEVER = {"import", "package", "throw", "throws", "try", "catch", "finally",
        "synchronized", "assert", "while", "do", "Object", "String", "double", "float", "public static void"};

    /** The lines without comments. */
    private static List<String> lines = new ArrayList<>();

    public static void main(String[] args) throws IOException {
        lines = withoutComments(Files.readAllLines(Path.of(SOURCE)));
        Due.test("rules 2, 4, 6 and 13: what never stands in the text", FormTest::neverThere);
        Due.test("rule 4: only the library's listed functions", FormTest::library);
        Due.test("rule 5: static fields are final constants", FormTest::staticFields);
        Due.test("rule 7: a divisor is looked at before it divides", FormTest::divisors);
        Due.test("rule 7: a stock of the row is looked at before it is used", FormTest::rowOfStocks);
        Due.test("rule 9: every loop counts against a bound", FormTest::loops);
        Due.test("rule 11: parameters, lines, classes and fields", FormTest::sizes);
        Due.test("rule 12: objects are made in constructors and by stock alone", FormTest::objects);
        Due.end();
    }

    private static List<String> withoutComments(List<String> all) {
        List<String> kept = new ArrayList<>();
        for (String line : all) {
            String text = line.strip();
            boolean comment = text.startsWith("/*") || text.startsWith("*") || text.startsWith("//");
            kept.add(comment ? "" : line);
        }
        return kept;
    }

    private static List<Class<?>> classes() {
        List<Class<?>> all = new ArrayList<>(List.of(CatchShares.class.getDeclaredClasses()));
        all.add(CatchShares.class);
        return all;
    }

    /** Each method and constructor with its body; a head ends with "{" and its body with "}" below its first letter. */
    private static List<List<String>> methods() {
        Pattern head = Pattern.compile("( {4}| {8})(?! )[\\w\\[\\] ]+\\([^;]*\\) \\{");
        List<List<String>> all = new ArrayList<>();
        for (int i = 0; i < lines.size(); i++) {
            Matcher found = head.matcher(lines.get(i));
            if (found.matches() && !lines.get(i).strip().matches("(if|for|switch) .*")) {
                int last = i + 1;
                while (!lines.get(last).equals(found.group(1) + "}")) {
                    last++;
                }
                all.add(lines.subList(i, last + 1));
            }
        }
        return all;
    }

    private static void neverThere() {
        for (String line : lines) {
            for (String word : NEVER) {
                Due.no(word + " in: " + line, Pattern.compile("\\b" + word + "\\b").matcher(line).find());
            }
            Due.no("lambda or reference in: " + line, line.contains("->") || line.contains("::"));
        }
    }

    private static void library() {
        Pattern call = Pattern.compile("\\b[A-Z]\\w*[a-z]\\w*\\.\\w+");
        for (String line : lines) {
            Matcher found = call.matcher(line);
            while (found.find()) {
                Due.yes(found.group() + " is listed", LIBRARY.contains(found.group()));
            }
        }
    }

    private static void staticFields() {
        for (Class<?> one : classes()) {
            for (Field field : one.getDeclaredFields()) {
                if (Modifier.isStatic(field.getModifiers())) {
                    Due.yes(field + " is a final number",
                        Modifier.isFinal(field.getModifiers()) && field.getType().isPrimitive());
                }
            }
        }
    }

    /** A constant need not be looked at; any other divisor must be compared above its division, in the same method. */
    private static void divisors() {
        Pattern division = Pattern.compile("[/%] ([\\w.]+)|floor(?:Div|Mod)\\(\\w+, (\\w+)\\)");
        for (List<String> method : methods()) {
            StringBuilder above = new StringBuilder();
            for (String line : method) {
                above.append(line);
                Matcher found = division.matcher(line);
                while (found.find()) {
                    String divisor = found.group(1) != null ? found.group(1) : found.group(2);
                    boolean constant = divisor.matches("[1-9]\\d*|[A-Z_]+");
                    String tests = "\\b" + Pattern.quote(divisor) + " < 1\\b|isFraction\\(\\w+, " + divisor + "\\)";
                    Due.yes(divisor + " is looked at before: " + line,
                        constant || Pattern.compile(tests).matcher(above).find());
                }
            }
        }
    }

    /** findStock alone reads the row, and each of its answers is compared with null. */
    private static void rowOfStocks() {
        int reads = 0;
        for (String line : lines) {
            reads += line.matches(".*\\bstocks\\[\\w+\\](?! =[^=]).*") ? 1 : 0;
        }
        Due.is("reads of the row", reads, 1);
        Pattern found = Pattern.compile("(\\w+) = findStock\\(");
        for (List<String> method : methods()) {
            String text = String.join("\n", method);
            Matcher each = found.matcher(text);
            while (each.find()) {
                String below = text.substring(each.end());
                int use = firstOf("\\b" + each.group(1) + "\\.", below);
                int test = firstOf("\\b" + each.group(1) + " [!=]= null\\b", below);
                Due.yes(each.group(1) + " is looked at in: " + method.get(0), test < use);
            }
        }
    }

    private static int firstOf(String words, String text) {
        Matcher found = Pattern.compile(words).matcher(text);
        return found.find() ? found.start() : text.length();
    }

    private static void loops() {
        String bound = "(count|stockCount|holderCount|OWNERS|\\w+\\.length)";
        String counted = "for \\(int (\\w+) = [01]; \\1 < " + bound + "; \\1\\+\\+\\) \\{";
        for (String line : lines) {
            if (line.strip().startsWith("for ")) {
                Due.yes("counts: " + line, line.strip().matches(counted));
            }
        }
    }

    private static void sizes() {
        Due.yes("at most 12 classes", classes().size() <= 12);
        for (Class<?> one : classes()) {
            int fields = 0;
            for (Field field : one.getDeclaredFields()) {
                fields += Modifier.isStatic(field.getModifiers()) ? 0 : 1;
            }
            Due.yes(one + " has at most 20 fields", fields <= 20);
            for (Method method : one.getDeclaredMethods()) {
                Due.yes(method + " takes at most 7", method.getParameterCount() <= 7);
            }
        }
        Due.yes("all methods are found in the text", methods().size() > 50);
        for (List<String> method : methods()) {
            Due.yes(method.get(0) + " is short", method.size() <= MOST_LINES);
        }
    }

    private static void objects() {
        for (List<String> method : methods()) {
            String head = method.get(0).strip();
            boolean makes = head.matches("(public )?(CatchShares|Stock|Landings|Owners)\\(.*")
                || head.startsWith("public int stock(");
            Due.yes(head + " makes nothing", makes || !String.join("\n", method).contains("new "));
        }
    }
}
