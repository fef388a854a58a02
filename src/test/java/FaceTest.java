import java.lang.reflect.Constructor;
import java.lang.reflect.Field;
import java.lang.reflect.Method;
import java.lang.reflect.Modifier;
import java.util.Arrays;
import java.util.Set;
import java.util.TreeSet;

/** The public face is the document's and nothing more; no private method bears a public one's name. */
public final class FaceTest {
    private static final Set<String> FACE = new TreeSet<>(Arrays.asList(
            "person(int,int,int)", "ill(int,boolean)", "session(int,int,int)", "seats(int)", "whole(int)",
            "cheapest(int)", "nearest(int)", "take(int,int)", "leave()", "booth(int)", "lacking(int)",
            "needed(int,int)", "speak(int,int,int)", "silence(int)", "limit(int)", "on(int,int)",
            "heard(int,int)", "tired(int,int)", "late(int)", "worn()", "count(int)"));

    public static void main(String[] args) {
        Due due = new Due("FaceTest");
        constants(due);
        constructor(due);
        methods(due);
        fields(due);
        nestedClasses(due);
        due.end();
    }

    private static void constants(Due due) {
        due.is("NONE", GlassBooths.NONE, -1);
        due.is("UNKNOWN", GlassBooths.UNKNOWN, -2);
        due.is("OUTSIDE", GlassBooths.OUTSIDE, -3);
        due.is("NOT", GlassBooths.NOT, -4);
        due.is("FULL", GlassBooths.FULL, -5);
    }

    private static void constructor(Due due) {
        int modifiers = GlassBooths.class.getModifiers();
        due.holds("the class is public and final", Modifier.isPublic(modifiers) && Modifier.isFinal(modifiers));
        Constructor<?>[] all = GlassBooths.class.getDeclaredConstructors();
        due.is("number of constructors", all.length, 1);
        due.holds("it is public, without parameters",
                Modifier.isPublic(all[0].getModifiers()) && all[0].getParameterCount() == 0);
    }

    private static void methods(Due due) {
        Set<String> open = new TreeSet<>();
        Set<String> openNames = new TreeSet<>();
        Set<String> closedNames = new TreeSet<>();
        for (Method method : GlassBooths.class.getDeclaredMethods()) {
            if (Modifier.isPrivate(method.getModifiers())) {
                closedNames.add(method.getName());
                continue;
            }
            open.add(signature(method));
            openNames.add(method.getName());
            due.holds(method + " is public, not static, answers int", Modifier.isPublic(method.getModifiers())
                    && !Modifier.isStatic(method.getModifiers()) && method.getReturnType() == int.class);
        }
        due.holds("the methods are those of the document: " + open, open.equals(FACE));
        for (Class<?> nested : GlassBooths.class.getDeclaredClasses()) {
            for (Method method : nested.getDeclaredMethods()) {
                closedNames.add(method.getName());
            }
        }
        closedNames.retainAll(openNames);
        due.holds("no inner method bears a public name: " + closedNames, closedNames.isEmpty());
    }

    private static String signature(Method method) {
        StringBuilder text = new StringBuilder(method.getName()).append('(');
        for (Class<?> type : method.getParameterTypes()) {
            text.append(text.charAt(text.length() - 1) == '(' ? "" : ",").append(type.getName());
        }
        return text.append(')').toString();
    }

    private static void fields(Due due) {
        Set<String> open = new TreeSet<>();
        for (Field field : GlassBooths.class.getDeclaredFields()) {
            if (!Modifier.isPrivate(field.getModifiers())) {
                open.add(field.getName());
            }
            if (Modifier.isStatic(field.getModifiers())) {
                due.holds(field + " is final", Modifier.isFinal(field.getModifiers()));
            }
        }
        due.holds("the constants are those of the document: " + open,
                open.equals(new TreeSet<>(Arrays.asList("NONE", "UNKNOWN", "OUTSIDE", "NOT", "FULL"))));
    }

    private static void nestedClasses(Due due) {
        for (Class<?> nested : GlassBooths.class.getDeclaredClasses()) {
            int modifiers = nested.getModifiers();
            due.holds(nested + " is static and neither public nor protected", Modifier.isStatic(modifiers)
                    && !Modifier.isPublic(modifiers) && !Modifier.isProtected(modifiers));
        }
    }
}
