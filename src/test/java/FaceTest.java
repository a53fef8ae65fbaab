import java.io.IOException;
import java.lang.reflect.Constructor;
import java.lang.reflect.Field;
import java.lang.reflect.Method;
import java.lang.reflect.Modifier;
import java.nio.file.Files;
import java.nio.file.Path;
import java.util.ArrayList;
import java.util.Arrays;
import java.util.List;
import java.util.TreeSet;
import java.util.regex.Matcher;
import java.util.regex.Pattern;

/** The public face with its constants, and what LANGUAGE.md says of members and words. The source is the argument. */
public final class FaceTest {
    private static final Due DUE = new Due("FaceTest");
    private static final String[] METHODS = {
        "set(int, int)", "mark(int, int, int)", "argue(int, int, int)", "round()", "print(int, int)", "buy(int)",
        "reopen(int)", "of(int, int)", "editor(int, int)", "chosen(int)", "count(int)", "why(int)", "ifRound(int)",
        "decides(int)", "agree(int, int)", "paperFor()", "put(long)", "wipe()", "fault()", "carryOut()", "undo()",
        "save(int)", "restore(int)",
    };
    private static final String[] CONSTANTS = {
        "NO_SUCH=-1", "BAD_VALUE=-2", "BAD_TEXT=-3", "TOO_MANY=-4", "NOT_POSSIBLE=-5", "NONE=-6", "NEED=0", "VETOES=1",
        "ARGUE=2", "DULL=3",
    };

    public static void main(String[] args) throws IllegalAccessException, IOException {
        constants();
        methods();
        otherMembers();
        words(Files.readString(Path.of(args[0])));
        DUE.end();
    }

    private static void constants() throws IllegalAccessException {
        TreeSet<String> found = new TreeSet<>();
        for (Field field : ProofMarks.class.getDeclaredFields()) {
            if (!Modifier.isPrivate(field.getModifiers())) {
                boolean constant = field.getType() == int.class
                    && field.getModifiers() == (Modifier.PUBLIC | Modifier.STATIC | Modifier.FINAL);
                found.add(constant ? field.getName() + "=" + field.getInt(null) : "another field " + field.getName());
            }
        }
        same("constants", found, CONSTANTS);
    }

    private static void methods() {
        TreeSet<String> found = new TreeSet<>();
        TreeSet<String> names = new TreeSet<>();
        for (String method : METHODS) {
            names.add(method.substring(0, method.indexOf('(')));
        }
        for (Method method : ProofMarks.class.getDeclaredMethods()) {
            if (Modifier.isPrivate(method.getModifiers())) {
                DUE.isTrue("a private method has a name of its own: " + method.getName(), !names.contains(method.getName()));
            } else {
                DUE.isTrue(method.getName() + " answers an int", method.getReturnType() == int.class);
                DUE.is("modifiers of " + method.getName(), method.getModifiers(), Modifier.PUBLIC);
                found.add(method.getName() + parameters(method));
            }
        }
        same("methods", found, METHODS);
    }

    private static String parameters(Method method) {
        List<String> types = new ArrayList<>();
        for (Class<?> type : method.getParameterTypes()) {
            types.add(type.getName());
        }
        return "(" + String.join(", ", types) + ")";
    }

    private static void otherMembers() {
        DUE.is("the class is public and final", ProofMarks.class.getModifiers(), Modifier.PUBLIC | Modifier.FINAL);
        Constructor<?>[] constructors = ProofMarks.class.getDeclaredConstructors();
        DUE.is("one constructor", constructors.length, 1);
        DUE.is("it is public", constructors[0].getModifiers(), Modifier.PUBLIC);
        DUE.is("it takes nothing", constructors[0].getParameterCount(), 0);
        for (Class<?> inside : ProofMarks.class.getDeclaredClasses()) {
            DUE.isTrue(inside.getName() + " is static", Modifier.isStatic(inside.getModifiers()));
            DUE.isTrue(inside.getName() + " is not public",
                !Modifier.isPublic(inside.getModifiers()) && !Modifier.isProtected(inside.getModifiers()));
            long fields = Arrays.stream(inside.getDeclaredFields()).filter(f -> !Modifier.isStatic(f.getModifiers())).count();
            DUE.isTrue(inside.getName() + " has some twenty fields at most", fields <= 20);
        }
    }

    private static void words(String source) {
        String code = source.replaceAll("(?s)/\\*.*?\\*/", " ").replaceAll("//[^\n]*", " ");
        Matcher matcher = Pattern.compile(
            "\\b(throw|throws|try|catch|synchronized|assert|import|package|\\w+Exact|hashCode|toString|equals|System\\.(?!arraycopy)\\w+)\\b|->|::")
            .matcher(code);
        while (matcher.find()) {
            DUE.isTrue("the program does without " + matcher.group(), false);
        }
        DUE.isTrue("the source was read", code.contains("public final class ProofMarks"));
    }

    private static void same(String what, TreeSet<String> found, String[] due) {
        TreeSet<String> wanted = new TreeSet<>(Arrays.asList(due));
        DUE.isTrue(what + " are " + wanted + ", found " + found, wanted.equals(found));
    }
}
