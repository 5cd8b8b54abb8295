import java.lang.reflect.Constructor;
import java.lang.reflect.Field;
import java.lang.reflect.Method;
import java.lang.reflect.Modifier;
import java.util.List;
import java.util.Set;
import java.util.TreeSet;

/** The public face of the class, and what of LANGUAGE.md can be seen of the compiled class. */
public final class FaceTests {
    private static final List<String> FACE = List.of(
        "int feed(int, long)", "int board(int)", "int text(boolean)", "int word()", "int keyOf(int, int)",
        "int letterOn(int, int)", "int fingerOf(int, boolean)", "int law(int, int, int)", "int gap(int, int, int, int)",
        "int sign(boolean, int)", "int practise(int, int)", "int piece(int, int)", "int pieces()",
        "int time(int, int, boolean)", "int may(int)", "int where(int, int)", "int exchange(int, int, int)",
        "int better(int, int)", "int climb(int, int, int)", "int summer(int, int, int)", "int put(int)", "int unput()",
        "int far(int, int)", "int nearest(int)", "int span(int, int, boolean)", "int ache(int, int)",
        "int pauses(int, int, int)", "int pace(int, int, int, int)", "int soonest(int, int, int)", "int image()",
        "int on()", "int count(int)");
    private static final Check CHECK = new Check("FaceTests");

    public static void main(String[] args) {
        face();
        nested();
        CHECK.end();
    }

    private static String told(Method method) {
        StringBuilder text = new StringBuilder(method.getReturnType().getName());
        text.append(' ').append(method.getName()).append('(');
        for (Class<?> type : method.getParameterTypes()) {
            text.append(text.charAt(text.length() - 1) == '(' ? "" : ", ").append(type.getName());
        }
        return text.append(')').toString();
    }

    private static void face() {
        CHECK.part("the public face");
        Set<String> names = new TreeSet<>();
        Set<String> found = new TreeSet<>();
        for (Method method : TenFingers.class.getDeclaredMethods()) {
            if (Modifier.isPublic(method.getModifiers())) {
                found.add(told(method));
                names.add(method.getName());
            }
        }
        CHECK.due("the methods are " + found, 1, found.equals(new TreeSet<>(FACE)) ? 1 : 0);
        for (Method method : TenFingers.class.getDeclaredMethods()) {
            boolean fits = Modifier.isPublic(method.getModifiers())
                || (Modifier.isPrivate(method.getModifiers()) && !names.contains(method.getName()));
            CHECK.due(method.getName() + " is public, or private with a name of its own", 1, fits ? 1 : 0);
        }
        for (Field field : TenFingers.class.getDeclaredFields()) {
            CHECK.due(field.getName() + " is private", 1, Modifier.isPrivate(field.getModifiers()) ? 1 : 0);
        }
        Constructor<?>[] constructors = TenFingers.class.getDeclaredConstructors();
        CHECK.due("constructors", 1, constructors.length);
        CHECK.due("its arguments", 0, constructors[0].getParameterCount());
        CHECK.due("public and final", Modifier.PUBLIC | Modifier.FINAL, TenFingers.class.getModifiers());
    }

    private static void nested() {
        CHECK.part("classes inside");
        CHECK.due("some twelve classes at most", 1, TenFingers.class.getDeclaredClasses().length <= 11 ? 1 : 0);
        for (Class<?> type : TenFingers.class.getDeclaredClasses()) {
            CHECK.due(type + " is private, static and final",
                Modifier.PRIVATE | Modifier.STATIC | Modifier.FINAL, type.getModifiers());
            for (Field field : type.getDeclaredFields()) {
                boolean fits = !Modifier.isStatic(field.getModifiers()) || Modifier.isFinal(field.getModifiers());
                CHECK.due(field + " is final if it is static", 1, fits ? 1 : 0);
            }
        }
    }
}
