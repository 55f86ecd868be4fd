import java.lang.reflect.Constructor;
import java.lang.reflect.Field;
import java.lang.reflect.Method;
import java.lang.reflect.Modifier;
import java.util.Arrays;
import java.util.StringJoiner;
import java.util.TreeSet;

/** The class shows the document's face and nothing beside it. */
public final class FaceTest {
    private static final String PLACE = "IndexOutOfBoundsException", ARGUMENT = "IllegalArgumentException",
            STATE = "IllegalStateException";
    private static final String[] FACE = {
        "void set(int, int, int, int) throws " + PLACE + ", " + ARGUMENT + ", " + STATE,
        "int event(int, int) throws " + PLACE + ", " + ARGUMENT,
        "int pass(int, int) throws " + PLACE + ", " + ARGUMENT,
        "int tick(int) throws " + ARGUMENT,
        "int put(int, int) throws " + PLACE + ", " + ARGUMENT + ", " + STATE,
        "int damage(int, int, int) throws " + PLACE + ", " + ARGUMENT,
        "int lose(int, int) throws " + PLACE + ", " + ARGUMENT,
        "boolean loop(int, boolean) throws " + PLACE,
        "int send(int, int, int) throws " + PLACE + ", " + ARGUMENT + ", " + STATE,
        "int echo(int) throws " + PLACE + ", " + STATE,
        "int data(int, int) throws " + PLACE,
        "int look(int, int) throws " + PLACE,
        "int about(int, int) throws " + PLACE + ", " + ARGUMENT,
        "int count(int, int) throws " + PLACE + ", " + ARGUMENT,
        "float noise()",
    };

    public static void main(String[] args) {
        Probe.due("NONE", -1, LineTalk.NONE);
        Probe.due("public", true, Modifier.isPublic(LineTalk.class.getModifiers()));
        Probe.due("final", true, Modifier.isFinal(LineTalk.class.getModifiers()));
        methods();
        privateNames();
        for (Field f : LineTalk.class.getDeclaredFields()) {
            boolean shown = !Modifier.isPrivate(f.getModifiers());
            Probe.due("field " + f.getName() + " is shown", f.getName().equals("NONE"), shown);
        }
        for (Constructor<?> c : LineTalk.class.getDeclaredConstructors()) {
            Probe.due("constructor", "public LineTalk()", c.toString());
        }
        Probe.end();
    }

    private static void methods() {
        TreeSet<String> methods = new TreeSet<>();
        for (Method m : LineTalk.class.getDeclaredMethods()) {
            if (!Modifier.isPrivate(m.getModifiers())) {
                String thrown = names(m.getExceptionTypes());
                methods.add(m.getReturnType() + " " + m.getName() + "(" + names(m.getParameterTypes()) + ")"
                        + (thrown.isEmpty() ? "" : " throws " + thrown));
                Probe.due(m.getName() + " is public", true, Modifier.isPublic(m.getModifiers()));
                Probe.due(m.getName() + " is static", false, Modifier.isStatic(m.getModifiers()));
            }
        }
        Probe.due("methods", new TreeSet<>(Arrays.asList(FACE)), methods);
    }

    private static String names(Class<?>[] types) {
        StringJoiner names = new StringJoiner(", ");
        for (Class<?> type : types) {
            names.add(type.getSimpleName());
        }
        return names.toString();
    }

    /** LANGUAGE.md, rule 1: "No private method bears the name of a public one." The classes inside are held to it too. */
    private static void privateNames() {
        TreeSet<String> face = new TreeSet<>();
        for (Method m : LineTalk.class.getMethods()) {
            if (m.getDeclaringClass() == LineTalk.class) {
                face.add(m.getName());
            }
        }
        for (Method m : LineTalk.class.getDeclaredMethods()) {
            if (Modifier.isPrivate(m.getModifiers())) {
                Probe.due(m.getName() + " bears a public name", false, face.contains(m.getName()));
            }
        }
        for (Class<?> inside : LineTalk.class.getDeclaredClasses()) {
            Probe.due(inside.getSimpleName() + " is static", true, Modifier.isStatic(inside.getModifiers()));
            Probe.due(inside.getSimpleName() + " is public", false, Modifier.isPublic(inside.getModifiers()));
            for (Method m : inside.getDeclaredMethods()) {
                Probe.due(inside.getSimpleName() + "." + m.getName() + " bears a public name", false, face.contains(m.getName()));
            }
        }
    }
}
