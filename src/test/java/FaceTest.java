import java.lang.reflect.Constructor;
import java.lang.reflect.Field;
import java.lang.reflect.Method;
import java.lang.reflect.Modifier;
import java.util.ArrayList;
import java.util.Collections;
import java.util.List;
import java.util.StringJoiner;

/** The class has the face that the document tells, and nothing else that others can see. */
public final class FaceTest extends Due {
    /** The declarations of the document's face, without "public" and the closing semicolon. */
    private static List<String> face() {
        int first = DOCUMENT.indexOf("public final class DropSwitch {");
        int last = DOCUMENT.indexOf("```", first);
        List<String> face = new ArrayList<>();
        for (String line : DOCUMENT.substring(first, last).split("\n")) {
            if (line.startsWith("    public ")) {
                face.add(line.trim().replaceFirst("^public ", "").replaceFirst(";$", ""));
            }
        }
        return face;
    }

    // ---- declarations, put as the document puts them but for the names of parameters

    private static String typed(Class<?>[] parameters, Class<?>[] exceptions) {
        StringJoiner types = new StringJoiner(", ", "(", ")");
        for (Class<?> parameter : parameters) {
            types.add(parameter.getSimpleName());
        }
        StringJoiner thrown = new StringJoiner(", ", " throws ", "");
        thrown.setEmptyValue("");
        for (Class<?> exception : exceptions) {
            thrown.add(exception.getSimpleName());
        }
        return types.toString() + thrown;
    }

    private static boolean isSeen(int modifiers) {
        return !Modifier.isPrivate(modifiers);
    }

    private static String constant(Field field) {
        try {
            return Modifier.toString(field.getModifiers()) + " int " + field.getName() + " = " + field.getInt(null);
        } catch (IllegalAccessException e) {
            return e.toString();
        }
    }

    /** All that others can see of the class. */
    private static List<String> seen() {
        List<String> seen = new ArrayList<>();
        for (Field field : DropSwitch.class.getDeclaredFields()) {
            if (isSeen(field.getModifiers())) {
                seen.add(constant(field));
            }
        }
        for (Constructor<?> made : DropSwitch.class.getDeclaredConstructors()) {
            seen.add(Modifier.toString(made.getModifiers()) + " DropSwitch"
                    + typed(made.getParameterTypes(), made.getExceptionTypes()));
        }
        for (Method method : DropSwitch.class.getDeclaredMethods()) {
            if (isSeen(method.getModifiers())) {
                seen.add(Modifier.toString(method.getModifiers()) + " " + method.getReturnType().getSimpleName() + " "
                        + method.getName() + typed(method.getParameterTypes(), method.getExceptionTypes()));
            }
        }
        Collections.sort(seen);
        return seen;
    }

    /** The document's face without the names of parameters. */
    private static List<String> due() {
        List<String> due = new ArrayList<>();
        for (String line : face()) {
            due.add("public " + line.replaceAll("\\b(int|boolean) \\w+(?=[,)])", "$1"));
        }
        Collections.sort(due);
        return due;
    }

    private static void members() {
        List<String> seen = seen();
        List<String> due = due();
        same("how many members the document tells", due.size(), 15 + 1 + 48);
        for (String member : due) {
            same("it has " + member, seen.contains(member), true);
        }
        for (String member : seen) {
            same("the document tells " + member, due.contains(member), true);
        }
    }

    private static void parameters() {
        String source = file("src/main/java/DropSwitch.java").replaceAll("\\s+", " ");
        for (String line : face()) {
            String ending = line.contains(" = ") ? ";" : " {";
            same("it is written " + line, source.contains("public " + line + ending), true);
        }
    }

    private static void form() {
        same("the class", Modifier.toString(DropSwitch.class.getModifiers()), "public final");
        same("what it extends", DropSwitch.class.getSuperclass(), Object.class);
        same("what it implements", DropSwitch.class.getInterfaces().length, 0);
        same("its package", DropSwitch.class.getPackageName(), "");
        for (Class<?> inside : DropSwitch.class.getDeclaredClasses()) {
            int modifiers = inside.getModifiers();
            same(inside + " is hidden", Modifier.isPublic(modifiers) || Modifier.isProtected(modifiers), false);
            same(inside + " is static", Modifier.isStatic(modifiers), true);
        }
    }

    public static void main(String[] args) {
        if (!DOCUMENT.isEmpty()) {
            test("The public face", FaceTest::members);
            test("The public face", FaceTest::parameters);
        }
        test("The public face", FaceTest::form);
        end("FaceTest");
    }
}
