import java.lang.reflect.Constructor;
import java.lang.reflect.Field;
import java.lang.reflect.Member;
import java.lang.reflect.Method;
import java.lang.reflect.Modifier;
import java.util.Arrays;
import java.util.TreeSet;

/** The public face: its constants and methods, and no member beside them that can be seen. */
public final class FaceTest {
    private static final String FACE = "DONE FULL NOTHING PREFIX REFUSED UNBOUND"
        + " argument(int) bind(int, int, int, int) cell(int, int) character(int) command(int) frame(int, int)"
        + " info(int) killed(int, int) macro(boolean) marker(int, boolean) markerAt(int) new() press(int) type(int)";

    public static void main(String[] args) {
        Check check = new Check();
        check.due("DONE", EditorCore.DONE, 0);
        check.due("REFUSED", EditorCore.REFUSED, -1);
        check.due("NOTHING", EditorCore.NOTHING, -2);
        check.due("FULL", EditorCore.FULL, -3);
        check.due("UNBOUND", EditorCore.UNBOUND, -4);
        check.due("PREFIX", EditorCore.PREFIX, 1000);
        check.due("the face", face(), FACE);
        check.due("the class", Modifier.toString(EditorCore.class.getModifiers()), "public final");
        check.end();
    }

    private static String face() {
        TreeSet<String> names = new TreeSet<>();
        for (Field field : EditorCore.class.getDeclaredFields()) {
            if (isSeen(field)) {
                names.add(field.getName());
            }
        }
        for (Method method : EditorCore.class.getDeclaredMethods()) {
            if (isSeen(method)) {
                names.add(method.getName() + parameters(method.getParameterTypes()));
            }
        }
        for (Constructor<?> constructor : EditorCore.class.getDeclaredConstructors()) {
            if (isSeen(constructor)) {
                names.add("new" + parameters(constructor.getParameterTypes()));
            }
        }
        return String.join(" ", names);
    }

    private static boolean isSeen(Member member) {
        return !Modifier.isPrivate(member.getModifiers());
    }

    private static String parameters(Class<?>[] types) {
        return Arrays.toString(types).replace('[', '(').replace(']', ')');
    }
}
