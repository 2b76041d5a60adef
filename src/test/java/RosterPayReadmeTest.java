import java.io.IOException;
import java.lang.reflect.InvocationTargetException;
import java.lang.reflect.Method;
import java.lang.reflect.Modifier;
import java.nio.file.Files;
import java.nio.file.Path;
import java.util.HashMap;
import java.util.List;
import java.util.Map;
import java.util.TreeSet;
import java.util.regex.Matcher;
import java.util.regex.Pattern;

/** The example of README.md: every call of the face is in it, and answers what stands behind it there. */
public final class RosterPayReadmeTest {
    private static final Path README = Path.of("README.md");
    private static final String BEGIN = "```java";
    private static final String END = "```";
    private static final String MAKING = "RosterPay roster = new RosterPay();";
    private static final Pattern CALL = Pattern.compile("roster\\.(\\w+)\\((.*)\\); +// ([-\\w]+)(: .*)?");

    public static void main(String[] args) throws IOException {
        List<String> example = example();
        TreeSet<String> names = new TreeSet<>();
        RosterPay roster = new RosterPay();
        Map<String, Method> face = face();
        for (String line : example) {
            Matcher call = CALL.matcher(line);
            if (call.matches()) {
                names.add(call.group(1));
                Checks.due(line, call.group(3), answer(roster, face.get(call.group(1)), call.group(2)));
            } else if (!line.isEmpty() && !line.equals(MAKING)) {
                Checks.fail("neither a call nor its answer: " + line);
            }
        }
        Checks.due("it begins with a new object", MAKING, example.isEmpty() ? "nothing" : example.get(0));
        Checks.due("calls in the example", new TreeSet<>(face.keySet()).toString(), names.toString());
        Checks.finish();
    }

    private static List<String> example() throws IOException {
        List<String> lines = Files.readAllLines(README);
        int begin = lines.indexOf(BEGIN) + 1;
        List<String> behind = lines.subList(begin, lines.size());
        int end = behind.indexOf(END);
        return begin == 0 || end < 0 ? List.of() : behind.subList(0, end);
    }

    private static Map<String, Method> face() {
        Map<String, Method> face = new HashMap<>();
        for (Method method : RosterPay.class.getDeclaredMethods()) {
            if (Modifier.isPublic(method.getModifiers())) {
                face.put(method.getName(), method);
            }
        }
        return face;
    }

    /** The answer as it is written in the example, or the name of the exception that the call throws. */
    private static String answer(RosterPay roster, Method method, String written) {
        String[] values = written.isEmpty() ? new String[0] : written.split(", ");
        if (method == null || method.getParameterCount() != values.length) {
            return "no such call";
        }
        Object[] arguments = new Object[values.length];
        for (int i = 0; i < values.length; i++) {
            boolean isNumber = method.getParameterTypes()[i] == int.class;
            arguments[i] = isNumber ? (Object) Integer.valueOf(values[i]) : Boolean.valueOf(values[i]);
        }
        try {
            return String.valueOf(method.invoke(roster, arguments));
        } catch (InvocationTargetException e) {
            return e.getCause().getClass().getSimpleName();
        } catch (IllegalAccessException e) {
            return "not public";
        }
    }
}
