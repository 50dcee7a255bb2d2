import java.lang.reflect.InvocationTargetException;
import java.lang.reflect.Method;
import java.nio.file.Files;
import java.nio.file.Path;
import java.util.ArrayList;
import java.util.HashMap;
import java.util.List;
import java.util.Map;
import java.util.Set;
import java.util.TreeSet;
import java.util.regex.Matcher;
import java.util.regex.Pattern;

/** The example in README.md answers what its comments tell, and shows every call of the face. */
public final class ReadmeTest {
    private static final Due DUE = new Due();
    /** A name, the call, its arguments, and what its comment tells. */
    private static final Pattern CALL = Pattern.compile(
            "(?:int (\\w+) = )?x\\.(\\w+)\\(([^)]*)\\);(?: +// (?:(-?\\d+|[A-Z]\\w+Exception)(?=$|:))?.*)?");
    private static final Map<String, String> NAMES = new HashMap<>();
    private static final Set<String> SHOWN = new TreeSet<>();

    public static void main(String[] args) throws Exception {
        WayTimes x = new WayTimes();
        for (String line : example()) {
            run(x, line);
        }
        Set<String> face = new TreeSet<>();
        for (Method method : WayTimes.class.getMethods()) {
            if (method.getDeclaringClass() == WayTimes.class) {
                face.add(method.getName());
            }
        }
        if (!SHOWN.equals(face)) {
            DUE.tell("the example shows " + SHOWN + ", the face has " + face);
        }
        DUE.end();
    }

    /** The calls of the one block of Java, without the line that makes the object. */
    private static List<String> example() throws Exception {
        List<String> calls = new ArrayList<>();
        boolean inside = false;
        for (String line : Files.readAllLines(Path.of("README.md"))) {
            if (line.startsWith("```")) {
                inside = line.equals("```java");
            } else if (inside && !line.isBlank() && !line.startsWith("WayTimes x = new WayTimes();")) {
                calls.add(line);
            }
        }
        return calls;
    }

    private static void run(WayTimes x, String line) throws Exception {
        Matcher call = CALL.matcher(line);
        if (!call.matches()) {
            DUE.tell("no call that can be run: " + line);
            return;
        }
        String answer = made(x, call.group(2), call.group(3).split(", "));
        SHOWN.add(call.group(2));
        if (call.group(1) != null) {
            NAMES.put(call.group(1), answer);
        }
        String told = call.group(4) == null ? "null" : call.group(4);
        if (!answer.equals(told)) {
            DUE.tell(line + " answered " + answer);
        }
    }

    private static String made(WayTimes x, String name, String[] words) throws Exception {
        for (Method method : WayTimes.class.getMethods()) {
            if (method.getName().equals(name) && method.getDeclaringClass() == WayTimes.class) {
                try {
                    return String.valueOf(method.invoke(x, values(method, words)));
                } catch (InvocationTargetException e) {
                    return e.getCause().getClass().getSimpleName();
                }
            }
        }
        return "no such method";
    }

    private static Object[] values(Method method, String[] words) {
        Object[] values = new Object[words.length];
        for (int i = 0; i < words.length; i++) {
            String word = NAMES.getOrDefault(words[i], words[i]);
            values[i] = method.getParameterTypes()[i] == boolean.class
                    ? (Object) Boolean.valueOf(word) : (Object) Integer.valueOf(word);
        }
        return values;
    }
}
