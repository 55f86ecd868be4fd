import java.lang.reflect.Constructor;
import java.lang.reflect.Field;
import java.lang.reflect.Method;
import java.lang.reflect.Modifier;
import java.util.Arrays;
import java.util.TreeSet;

/** The class shows the document's face and nothing beside it. */
public final class FaceTest {
    private static final String[] FACE = {
        "void set(int, int, int, int)", "int event(int, int)", "int pass(int, int)", "int tick(int)",
        "int put(int, int)", "int damage(int, int, int)", "int lose(int, int)", "boolean loop(int, boolean)",
        "int send(int, int, int)", "int echo(int)", "int data(int, int)", "int look(int, int)",
        "int about(int, int)", "int count(int, int)", "float noise()"
    };

    public static void main(String[] args) {
        Probe.due("NONE", -1, LineTalk.NONE);
        Probe.due("public", true, Modifier.isPublic(LineTalk.class.getModifiers()));
        Probe.due("final", true, Modifier.isFinal(LineTalk.class.getModifiers()));

        TreeSet<String> methods = new TreeSet<>();
        for (Method m : LineTalk.class.getDeclaredMethods()) {
            if (!Modifier.isPrivate(m.getModifiers())) {
                String types = Arrays.toString(m.getParameterTypes());
                methods.add(m.getReturnType() + " " + m.getName() + "(" + types.substring(1, types.length() - 1) + ")");
            }
        }
        Probe.due("methods", new TreeSet<>(Arrays.asList(FACE)), methods);

        for (Field f : LineTalk.class.getDeclaredFields()) {
            boolean shown = !Modifier.isPrivate(f.getModifiers());
            Probe.due("field " + f.getName() + " is shown", f.getName().equals("NONE"), shown);
        }
        for (Constructor<?> c : LineTalk.class.getDeclaredConstructors()) {
            Probe.due("constructor", "public LineTalk()", c.toString());
        }
        Probe.end();
    }
}
