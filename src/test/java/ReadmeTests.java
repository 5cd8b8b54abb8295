import java.io.IOException;
import java.lang.reflect.InvocationTargetException;
import java.lang.reflect.Method;
import java.lang.reflect.Modifier;
import java.nio.file.Files;
import java.nio.file.Path;
import java.util.Map;
import java.util.Set;
import java.util.TreeMap;
import java.util.TreeSet;
import java.util.regex.Matcher;
import java.util.regex.Pattern;

/** README.md tells of each call of the class, and its examples answer as it says. */
public final class ReadmeTests {
    private static final Pattern SIGNATURE = Pattern.compile("public (int \\w+\\([^)]*\\)) \\{");
    private static final Pattern EXAMPLE = Pattern.compile("x\\.(\\w+)\\(([^)]*)\\); +// (-?\\d+)(: .*)?");
    private static final Check CHECK = new Check("ReadmeTests");

    public static void main(String[] args) throws IOException, ReflectiveOperationException {
        String readme = Files.readString(Path.of("README.md"));
        Set<String> shown = examples(readme);
        CHECK.part("each call by its name, what goes in, what comes out");
        for (String name : methods().keySet()) {
            holds(name + " has an example", shown.contains(name));
        }
        Matcher matcher = SIGNATURE.matcher(Files.readString(Path.of("src/main/java/TenFingers.java")));
        int calls = 0;
        while (matcher.find()) {
            calls++;
            holds(matcher.group(1) + " has a row", readme.contains("\n| `" + matcher.group(1) + "` | "));
        }
        CHECK.due("calls of the class", methods().size(), calls);
        CHECK.part("what the negative answers mean");
        String[] answers = {"-1 NOBODY", "-2 OTHER", "-3 STATE", "-4 BELOW", "-6 ROOM", "-9", "-20 less"};
        for (String answer : answers) {
            holds(answer + " has a row", readme.contains("\n| " + answer));
        }
        CHECK.part("how to run its tests");
        holds("bash .ci/run", readme.contains("\nbash .ci/run\n"));
        CHECK.end();
    }

    private static void holds(String what, boolean kept) {
        CHECK.due(what, 1, kept ? 1 : 0);
    }

    private static Map<String, Method> methods() {
        Map<String, Method> found = new TreeMap<>();
        for (Method method : TenFingers.class.getDeclaredMethods()) {
            if (Modifier.isPublic(method.getModifiers())) {
                found.put(method.getName(), method);
            }
        }
        return found;
    }

    /** Makes the calls of the examples on one object: which calls there were. */
    private static Set<String> examples(String readme) throws ReflectiveOperationException {
        CHECK.part("the examples");
        Set<String> shown = new TreeSet<>();
        TenFingers x = new TenFingers();
        for (String line : readme.split("\n")) {
            if (line.startsWith("x.")) {
                Matcher matcher = EXAMPLE.matcher(line);
                boolean whole = matcher.matches() && methods().containsKey(matcher.group(1));
                holds(line + " is a call with its answer", whole);
                if (whole) {
                    shown.add(matcher.group(1));
                    int got = call(x, methods().get(matcher.group(1)), matcher.group(2));
                    CHECK.due(line, Integer.parseInt(matcher.group(3)), got);
                }
            }
        }
        return shown;
    }

    private static int call(TenFingers x, Method method, String told)
            throws IllegalAccessException, InvocationTargetException {
        String[] values = told.isEmpty() ? new String[0] : told.split(", ");
        Object[] arguments = new Object[values.length];
        for (int i = 0; i < values.length; i++) {
            Class<?> type = method.getParameterTypes()[i];
            if (type == boolean.class) {
                arguments[i] = Boolean.valueOf(values[i]);
            } else if (type == long.class) {
                arguments[i] = Long.decode(values[i].replace("L", ""));
            } else {
                arguments[i] = Integer.valueOf(values[i]);
            }
        }
        return (int) method.invoke(x, arguments);
    }
}
