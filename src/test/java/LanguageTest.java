import java.lang.reflect.Field;
import java.lang.reflect.Method;
import java.lang.reflect.Modifier;
import java.nio.charset.StandardCharsets;
import java.nio.file.Files;
import java.nio.file.Path;
import java.util.ArrayList;
import java.util.Arrays;
import java.util.List;
import java.util.regex.Matcher;
import java.util.regex.Pattern;

/** What LANGUAGE.md forbids, as far as the source's words, its methods' lengths and reflection can find it. */
public final class LanguageTest {
    private static final Path SOURCE = Path.of("src/main/java/GlassBooths.java");
    /** Texts, doubles and divisions are allowed; the class does without, and what is not there cannot fail. */
    private static final String[] FORBIDDEN = {
        "\\b(throw|throws|try|catch|finally|synchronized|assert|native|volatile|transient)\\b", "->", "::",
        "\\w+Exact\\b", "\\bpackage\\b", "\\b(hashCode|toString|equals)\\b", "\\bThread\\b", "\\bRandom\\b",
        "\\bSystem\\.(?!arraycopy\\b)", "\\bnew\\s+\\w+\\s*\\([^)]*\\)\\s*\\{", "\\bstatic\\s*\\{",
        "\\bimport\\s+(?!java\\.util\\.(Arrays|ArrayList|List|Iterator);)", "[^\\x00-\\x7f]", "\\bprotected\\b",
        "\\bArrays\\.(?!(copyOf|copyOfRange|fill)\\b)", "\\b(double|float)\\b", "\"", "[^/]/[^/*]", "%",
    };
    private static final Pattern BOUNDED = Pattern.compile(
            "for \\(int (\\w+) = 0; \\1 < (?:TONGUES|HALVES|people\\.size|size)(?: && \\1 <= \\w+)?; \\1\\+\\+\\) \\{");
    private static final Pattern METHOD = Pattern.compile("(?: {4}| {8})(?:\\w[\\w\\[\\] ]* )?\\w+\\(.*\\) \\{");
    private static final int MOST_LINES = 60, MOST_PARAMETERS = 7, MOST_CLASSES = 12, MOST_FIELDS = 20;
    private static final Due due = new Due("LanguageTest");

    public static void main(String[] args) throws Exception {
        String code = withoutComments(Files.readString(SOURCE, StandardCharsets.UTF_8));
        due.of("LANGUAGE.md, rules 2 to 6 and 13: words");
        for (String pattern : FORBIDDEN) {
            due.holds("nothing of " + pattern, !Pattern.compile(pattern).matcher(code).find());
        }
        String[] lines = code.split("\n");
        objectsAreMadeOnlyWithTheObject(lines);
        loopsHaveABound(lines);
        methodsAreShort(lines);
        List<Class<?>> classes = new ArrayList<>(Arrays.asList(GlassBooths.class.getDeclaredClasses()));
        classes.add(GlassBooths.class);
        fewOfEach(classes);
        due.end();
    }

    private static String withoutComments(String code) {
        return code.replaceAll("(?s)/\\*.*?\\*/", " ").replaceAll("//[^\n]*", " ");
    }

    /** All calls of a run share one room: only field initialisers and the constructor may make objects. */
    private static void objectsAreMadeOnlyWithTheObject(String[] lines) {
        due.of("LANGUAGE.md, rule 12: what a run makes");
        for (String line : lines) {
            if (line.matches(".*\\bnew\\b.*")) {
                due.holds("made once: " + line.trim(),
                        line.matches("        private final .*= new int\\[\\w+\\];|        \\w+ = new .*;"));
            }
        }
    }

    private static void loopsHaveABound(String[] lines) {
        due.of("LANGUAGE.md, rule 9: loops");
        for (String line : lines) {
            if (line.matches(".*\\b(for|while|do)\\b.*")) {
                due.holds("a counter against a bound: " + line.trim(), BOUNDED.matcher(line.trim()).matches());
            }
        }
    }

    private static void methodsAreShort(String[] lines) {
        due.of("LANGUAGE.md, rule 11: methods");
        int methods = 0;
        for (int start = 0; start < lines.length; start++) {
            Matcher method = METHOD.matcher(lines[start]);
            if (method.matches()) {
                methods++;
                due.holds("short: " + lines[start].trim(), linesOf(lines, start) <= MOST_LINES);
            }
        }
        due.holds("all methods are seen, not " + methods, methods > 50);
    }

    private static int linesOf(String[] lines, int start) {
        String end = lines[start].replaceAll("\\S.*", "") + "}";
        int last = start;
        while (last < lines.length && !lines[last].equals(end)) {
            last++;
        }
        return last - start + 1;
    }

    private static void fewOfEach(List<Class<?>> classes) {
        due.of("LANGUAGE.md, rules 3, 5 and 11: classes, fields, parameters");
        due.holds("classes: " + classes.size(), classes.size() <= MOST_CLASSES);
        for (Class<?> one : classes) {
            int fields = 0;
            for (Field field : one.getDeclaredFields()) {
                boolean fixed = Modifier.isStatic(field.getModifiers());
                fields += fixed ? 0 : 1;
                due.holds("type of " + field, fixed ? isConstant(field) : isPlain(field.getType(), classes));
            }
            due.holds("fields of " + one + ": " + fields, fields <= MOST_FIELDS);
            for (Method method : one.getDeclaredMethods()) {
                due.holds("parameters of " + method, method.getParameterCount() <= MOST_PARAMETERS);
            }
        }
    }

    private static boolean isConstant(Field field) {
        return Modifier.isFinal(field.getModifiers()) && field.getType() == int.class;
    }

    private static boolean isPlain(Class<?> type, List<Class<?>> classes) {
        return type == int.class || type == int[].class || classes.contains(type);
    }
}
