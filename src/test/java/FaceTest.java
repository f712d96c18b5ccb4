import java.lang.reflect.Constructor;
import java.lang.reflect.Field;
import java.lang.reflect.Method;
import java.lang.reflect.Modifier;
import java.util.Arrays;
import java.util.Set;
import java.util.TreeSet;

/** The class has the document's face and nothing beside it. */
public final class FaceTest {
    private static final String ARGUMENT = " IllegalArgumentException";
    private static final String STATE = " IllegalStateException";
    private static final String ELEMENT = " NoSuchElementException";
    private static final String UNSUPPORTED = " UnsupportedOperationException";

    private static final String[] FACE = {
        "int edge(int,int,int)" + ARGUMENT + STATE, "void link(int,int,int)" + ARGUMENT + STATE,
        "void reads(int,int,boolean)" + ARGUMENT + STATE, "void command(int,int)" + ARGUMENT + STATE,
        "void pool(int,int)" + ARGUMENT + STATE, "void write(int,int)" + ARGUMENT + STATE,
        "void remove(int)" + ARGUMENT + ELEMENT + STATE,
        "int begin(int,int,int)" + ARGUMENT + STATE + UNSUPPORTED + ELEMENT, "int start()",
        "int finish(int,boolean)" + ELEMENT, "int state()", "int about(int)" + ARGUMENT,
        "int file(int,int)" + ARGUMENT, "int commandOf(int)" + ARGUMENT, "int log(int)",
        "int cut(int)" + ARGUMENT + STATE, "boolean spoil(int,int)"};

    public static void main(String[] args) {
        Due due = new Due("FaceTest");
        Class<?> face = FileBuilder.class;
        due.answers("public and final",
                Modifier.isPublic(face.getModifiers()) && Modifier.isFinal(face.getModifiers()), true);
        checkMethods(due, face);
        checkFields(due, face);
        for (Constructor<?> made : face.getDeclaredConstructors()) {
            due.answers("constructor", Modifier.isPublic(made.getModifiers())
                    && made.getParameterCount() == 0, true);
        }
        for (Class<?> inside : face.getDeclaredClasses()) {
            due.answers(inside.getName() + " is static", Modifier.isStatic(inside.getModifiers()), true);
            due.answers(inside.getName() + " is hidden", Modifier.isPublic(inside.getModifiers())
                    || Modifier.isProtected(inside.getModifiers()), false);
        }
        due.answers("NONE", FileBuilder.NONE, -1);
        due.end();
    }

    private static void checkMethods(Due due, Class<?> face) {
        Set<String> seen = new TreeSet<>();
        Set<String> names = new TreeSet<>();
        for (String line : FACE) {
            names.add(line.substring(line.indexOf(' ') + 1, line.indexOf('(')));
        }
        for (Method m : face.getDeclaredMethods()) {
            if (Modifier.isPublic(m.getModifiers())) {
                seen.add(text(m));
            } else {
                due.answers(m.getName() + " is private", Modifier.isPrivate(m.getModifiers()), true);
                due.answers(m.getName() + " bears a public name", names.contains(m.getName()), false);
            }
        }
        if (!seen.equals(new TreeSet<>(Arrays.asList(FACE)))) {
            due.fault("the public methods are " + seen);
        }
    }

    private static void checkFields(Due due, Class<?> face) {
        for (Field field : face.getDeclaredFields()) {
            boolean hidden = Modifier.isPrivate(field.getModifiers());
            due.answers(field.getName() + " is private", hidden, !field.getName().equals("NONE"));
            boolean loose = Modifier.isStatic(field.getModifiers())
                    && !Modifier.isFinal(field.getModifiers());
            due.answers(field.getName() + " is static and not final", loose, false);
        }
    }

    private static String text(Method m) {
        StringBuilder line = new StringBuilder();
        line.append(m.getReturnType().getName()).append(' ').append(m.getName()).append('(');
        for (Class<?> type : m.getParameterTypes()) {
            line.append(line.charAt(line.length() - 1) == '(' ? "" : ",").append(type.getName());
        }
        line.append(')');
        for (Class<?> thrown : m.getExceptionTypes()) {
            line.append(' ').append(thrown.getSimpleName());
        }
        return line.toString();
    }
}
