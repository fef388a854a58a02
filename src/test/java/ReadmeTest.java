import java.lang.reflect.Method;
import java.lang.reflect.Modifier;
import java.nio.file.Files;
import java.nio.file.Path;
import java.util.ArrayList;
import java.util.Arrays;
import java.util.List;
import java.util.Map;
import java.util.Set;
import java.util.TreeMap;
import java.util.TreeSet;
import java.util.regex.Matcher;
import java.util.regex.Pattern;

/** README.md: each call of its example answers what stands behind it, and its tables are complete and right. */
public final class ReadmeTest {
    private static final String MAKING = "GlassBooths x = new GlassBooths();";
    private static final Pattern CALL = Pattern.compile("x\\.(\\w+)\\((.*)\\); +// (-?\\d+|[A-Z]+)(: .*)?");
    private static final Pattern CALL_ROW = Pattern.compile("\\| `(\\w+)\\((.*?)\\)` \\| .* \\|(.*)\\|");
    private static final Pattern CONSTANT_ROW = Pattern.compile("\\| `([A-Z]+)` \\| (-\\d) \\| .* \\|");
    private static final Pattern TEST_ROW = Pattern.compile("\\| `(\\w+Test)` \\| .* \\|");
    private static final Pattern PROMISE = Pattern.compile("`int (\\w+)\\((.*?)\\)`: (.*)");
    private static final Pattern REFUSAL = Pattern.compile("\\b(UNKNOWN|OUTSIDE|NOT|FULL)\\b");
    private static final Due due = new Due("ReadmeTest");

    private static final Map<String, Method> face = new TreeMap<>();
    private static final Set<String> shown = new TreeSet<>();

    public static void main(String[] args) throws Exception {
        List<String> readme = Files.readAllLines(Path.of("README.md"));
        for (Method method : GlassBooths.class.getDeclaredMethods()) {
            if (Modifier.isPublic(method.getModifiers())) {
                face.put(method.getName(), method);
            }
        }
        example(readme);
        everythingIsShown();
        tableOfCalls(readme, Files.readAllLines(Path.of("../shared/DOC.md")));
        tableOfRefusals(readme);
        tableOfTests(readme);
        due.end();
    }

    private static void example(List<String> readme) throws Exception {
        due.of("README.md, the example");
        GlassBooths x = null;
        for (String line : javaLines(readme)) {
            if (line.equals(MAKING)) {
                x = new GlassBooths();
            } else {
                call(x, line);
            }
        }
    }

    private static List<String> javaLines(List<String> readme) {
        List<String> lines = new ArrayList<>();
        boolean inside = false;
        for (String line : readme) {
            if (line.startsWith("```")) {
                inside = line.equals("```java");
            } else if (inside) {
                lines.add(line);
            }
        }
        due.holds("there are lines of Java", lines.contains(MAKING));
        return lines;
    }

    private static void call(GlassBooths x, String line) throws Exception {
        Matcher call = CALL.matcher(line);
        boolean good = x != null && call.matches() && face.containsKey(call.group(1));
        due.holds("a call of the face with its answer: " + line, good);
        if (!good) {
            return;
        }
        Method method = face.get(call.group(1));
        due.is(line, (int) method.invoke(x, arguments(method, call.group(2))), answer(call.group(3)));
        shown.add(call.group(1));
        shown.add(call.group(3));
    }

    private static Object[] arguments(Method method, String text) {
        String[] words = words(text);
        Object[] arguments = new Object[words.length];
        for (int i = 0; i < words.length; i++) {
            boolean asBoolean = method.getParameterTypes()[i] == boolean.class;
            arguments[i] = asBoolean ? (Object) Boolean.valueOf(words[i]) : (Object) number(words[i]);
        }
        return arguments;
    }

    private static String[] words(String text) {
        return text.isEmpty() ? new String[0] : text.split(", ");
    }

    private static Integer number(String word) {
        return word.startsWith("0b") ? Integer.valueOf(word.substring(2), 2) : Integer.valueOf(word);
    }

    private static int answer(String word) throws Exception {
        return Character.isLetter(word.charAt(0)) ? GlassBooths.class.getField(word).getInt(null) : number(word);
    }

    private static void everythingIsShown() {
        due.of("README.md, the example shows each call and each constant");
        for (String name : face.keySet()) {
            due.holds(name, shown.contains(name));
        }
        for (String constant : Arrays.asList("NONE", "UNKNOWN", "OUTSIDE", "NOT", "FULL")) {
            due.holds(constant, shown.contains(constant));
        }
    }

    private static void tableOfCalls(List<String> readme, List<String> document) {
        due.of("README.md, the table of calls is the document's");
        Map<String, String> told = rows(readme, CALL_ROW);
        Map<String, String> promised = rows(document, PROMISE);
        due.holds("each call of the face: " + told.keySet(), told.keySet().equals(face.keySet()));
        due.holds("each promise: " + promised.keySet(), promised.keySet().equals(face.keySet()));
        for (String name : told.keySet()) {
            due.holds(told.get(name) + " is " + promised.get(name), told.get(name).equals(promised.get(name)));
        }
    }

    /** By the call's name: its parameters, without types, and the refusals that the row or promise names. */
    private static Map<String, String> rows(List<String> lines, Pattern pattern) {
        Map<String, String> rows = new TreeMap<>();
        for (String line : lines) {
            Matcher row = pattern.matcher(line);
            if (row.matches()) {
                String parameters = row.group(2).replaceAll("\\b(int|boolean) ", "");
                String old = rows.put(row.group(1), row.group(1) + "(" + parameters + ") " + refusals(row.group(3)));
                due.holds("one row for " + row.group(1), old == null);
            }
        }
        return rows;
    }

    private static List<String> refusals(String text) {
        List<String> refusals = new ArrayList<>();
        Matcher refusal = REFUSAL.matcher(text);
        while (refusal.find()) {
            refusals.add(refusal.group());
        }
        return refusals;
    }

    private static void tableOfRefusals(List<String> readme) throws Exception {
        due.of("README.md, the table of refusals has each, in its order, with its number");
        List<String> told = new ArrayList<>();
        for (String line : readme) {
            Matcher row = CONSTANT_ROW.matcher(line);
            if (row.matches()) {
                told.add(row.group(1));
                due.is(row.group(1), answer(row.group(1)), Integer.parseInt(row.group(2)));
            }
        }
        due.holds("all four: " + told, told.equals(Arrays.asList("UNKNOWN", "OUTSIDE", "NOT", "FULL")));
    }

    private static void tableOfTests(List<String> readme) {
        due.of("README.md, the table of tests has each that .ci/run runs");
        Set<String> told = new TreeSet<>();
        for (String line : readme) {
            Matcher row = TEST_ROW.matcher(line);
            if (row.matches()) {
                told.add(row.group(1));
            }
        }
        Set<String> there = new TreeSet<>();
        for (String file : Path.of("src/test/java").toFile().list()) {
            if (file.endsWith("Test.java")) {
                there.add(file.substring(0, file.length() - ".java".length()));
            }
        }
        due.holds(told + " is " + there, told.equals(there));
    }
}
