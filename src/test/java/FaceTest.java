import java.lang.reflect.Constructor;
import java.lang.reflect.Field;
import java.lang.reflect.Method;
import java.lang.reflect.Modifier;
import java.util.Arrays;
import java.util.TreeSet;

/** The class has the members of the document's face, and no others that can be seen from outside. */
public final class FaceTest {
    private static final String[] FACE = {
        "int fix(int, int, int)", "int poke(int, int)", "int peek(int)", "int wide()",
        "int channel(int)", "void send(int, int)", "void key(int)", "boolean pulse(int, boolean)",
        "void want(int)", "int step(int)", "void restart()", "long cycles()", "int told(int)",
        "int lamps(int)", "int figure(int, boolean)"};

    public static void main(String[] args) {
        Check check = new Check();
        check.due("final and public", Modifier.isFinal(GuidanceDesk.class.getModifiers())
                && Modifier.isPublic(GuidanceDesk.class.getModifiers()), true);
        check.due("NONE", GuidanceDesk.NONE, -1);
        methods(check);
        fields(check);
        Constructor<?>[] constructors = GuidanceDesk.class.getDeclaredConstructors();
        check.due("constructors", constructors.length, 1);
        check.due("arguments of it", constructors[0].getParameterCount(), 0);
        check.end();
    }

    private static void methods(Check check) {
        TreeSet<String> seen = new TreeSet<>();
        for (Method method : GuidanceDesk.class.getDeclaredMethods()) {
            if (!Modifier.isPrivate(method.getModifiers()) && !method.isSynthetic()) {
                String types = Arrays.toString(method.getParameterTypes());
                seen.add(method.getReturnType() + " " + method.getName()
                        + "(" + types.substring(1, types.length() - 1) + ")");
            }
        }
        check.due("methods " + seen, seen.equals(new TreeSet<>(Arrays.asList(FACE))), true);
    }

    private static void fields(Check check) {
        for (Field field : GuidanceDesk.class.getDeclaredFields()) {
            boolean hidden = Modifier.isPrivate(field.getModifiers()) || field.isSynthetic();
            check.due("field " + field.getName(), hidden || field.getName().equals("NONE"), true);
        }
    }
}
