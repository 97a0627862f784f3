import java.io.IOException;
import java.lang.reflect.Field;
import java.lang.reflect.Method;
import java.lang.reflect.Modifier;
import java.nio.file.Files;
import java.nio.file.Path;
import java.util.TreeSet;

/** The face is just the document's, and the source keeps to what LANGUAGE.md says of words and sizes. */
public final class FaceTest {
    private static final String[] METHODS = {
        "int addWheel(int,int,int,int,int)", "int fail(int,boolean)", "int setMost(int,boolean,int)",
        "int wheel(int,int)", "int wheels()", "int setAxis(int,int,int)", "int set(int,int)",
        "int setting(int)", "long strike(int,int)", "int tick(int)", "int time()", "long axis(int,int)",
        "long span()", "long wish(int,int,int,int)", "int why(int)", "float fullness()", "int arrives(int)",
        "int spare()", "int gravest(int)", "int undo()", "long fingerprint()"};
    private static final String[] FORBIDDEN = {"import", "catch", "throw ", "finally", "->", "::",
        "synchronized", "assert", "Exact(", "static {", "NaN", "protected", "record "};

    public static void main(String[] args) throws IOException {
        constants();
        methods();
        classes();
        source();
        Check.end();
    }

    private static void constants() {
        Check.due("BAD", WheelDesk.BAD, -2000001);
        Check.due("STATE", WheelDesk.STATE, -2000002);
        Check.due("FULL", WheelDesk.FULL, -2000003);
        Check.due("NONE", WheelDesk.NONE, -2000009);
        int open = 0;
        for (Field field : WheelDesk.class.getDeclaredFields()) {
            open += Modifier.isPrivate(field.getModifiers()) ? 0 : 1;
        }
        Check.due("open fields", open, 4);
    }

    private static void methods() {
        TreeSet<String> found = new TreeSet<>();
        TreeSet<String> open = new TreeSet<>();
        for (Method method : WheelDesk.class.getDeclaredMethods()) {
            if (!Modifier.isPrivate(method.getModifiers())) {
                found.add(signature(method));
                open.add(method.getName());
            }
        }
        TreeSet<String> due = new TreeSet<>(java.util.List.of(METHODS));
        Check.due("the face is " + found, found.equals(due) ? 1 : 0, 1);
        for (Class<?> inside : WheelDesk.class.getDeclaredClasses()) {
            for (Method method : inside.getDeclaredMethods()) {
                Check.due(inside + " has a " + method.getName(), open.contains(method.getName()) ? 1 : 0, 0);
            }
        }
    }

    private static String signature(Method method) {
        StringBuilder text = new StringBuilder();
        text.append(method.getReturnType().getName()).append(' ').append(method.getName()).append('(');
        for (Class<?> type : method.getParameterTypes()) {
            text.append(text.charAt(text.length() - 1) == '(' ? "" : ",").append(type.getName());
        }
        return text.append(')').toString();
    }

    private static void classes() {
        int modifiers = WheelDesk.class.getModifiers();
        Check.due("public and final", Modifier.isPublic(modifiers) && Modifier.isFinal(modifiers) ? 1 : 0, 1);
        Check.due("one public constructor", WheelDesk.class.getConstructors().length, 1);
        Check.due("one constructor", WheelDesk.class.getDeclaredConstructors().length, 1);
        for (Class<?> inside : WheelDesk.class.getDeclaredClasses()) {
            Check.due(inside + " is static", Modifier.isStatic(inside.getModifiers()) ? 1 : 0, 1);
            Check.due(inside + " has few fields", inside.getDeclaredFields().length <= 20 ? 1 : 0, 1);
        }
    }

    private static void source() throws IOException {
        String text = Files.readString(Path.of("src/main/java/WheelDesk.java"));
        for (String word : FORBIDDEN) {
            Check.due("the source has '" + word + "'", text.contains(word) ? 1 : 0, 0);
        }
        int strange = 0;
        for (char sign : text.toCharArray()) {
            strange += sign > 126 ? 1 : 0;
        }
        Check.due("signs beyond 126", strange, 0);
    }
}
