import java.nio.charset.StandardCharsets;
import java.nio.file.Files;
import java.nio.file.Path;
import java.util.regex.Matcher;
import java.util.regex.Pattern;

/** What LANGUAGE.md forbids and a look at the source's words can find. */
public final class LanguageTest {
    private static final Path SOURCE = Path.of("src/main/java/GlassBooths.java");
    private static final String[] FORBIDDEN = {
        "\\b(throw|throws|try|catch|finally|synchronized|assert|native|volatile|transient)\\b", "->", "::",
        "\\w+Exact\\b", "\\bpackage\\b", "\\b(hashCode|toString|equals)\\b", "\\bThread\\b", "\\bRandom\\b",
        "\\bSystem\\.(?!arraycopy\\b)", "\\bnew\\s+\\w+\\s*\\([^)]*\\)\\s*\\{", "\\bstatic\\s*\\{",
        "\\bimport\\s+(?!java\\.util\\.(Arrays|ArrayList|List|Iterator);)", "[^\\x00-\\x7f]", "\\bprotected\\b",
    };

    public static void main(String[] args) throws Exception {
        Due due = new Due("LanguageTest");
        String code = withoutComments(Files.readString(SOURCE, StandardCharsets.UTF_8));
        for (String pattern : FORBIDDEN) {
            Matcher found = Pattern.compile(pattern).matcher(code);
            due.holds("nothing of " + pattern, !found.find());
        }
        objectsAreMadeOnlyWithTheObject(due, code);
        due.end();
    }

    private static String withoutComments(String code) {
        return code.replaceAll("(?s)/\\*.*?\\*/", " ").replaceAll("//[^\n]*", " ");
    }

    /** All calls of a run share one room: only field initialisers and the constructor may make objects. */
    private static void objectsAreMadeOnlyWithTheObject(Due due, String code) {
        for (String line : code.split("\n")) {
            if (line.matches(".*\\bnew\\b.*")) {
                due.holds("made once: " + line.trim(),
                        line.matches("        private final .*= new int\\[\\w+\\];|        \\w+ = new .*;"));
            }
        }
    }
}
