import java.lang.reflect.InvocationTargetException;
import java.lang.reflect.Method;
import java.lang.reflect.Modifier;
import java.util.ArrayList;
import java.util.Comparator;
import java.util.List;
import java.util.Random;

/** Any arguments in any state: a call throws nothing but what its face names, and never by the machine. */
public final class AnyArgumentsTest {
    private static final Due DUE = new Due();
    private static final int[] ODD = {Integer.MIN_VALUE, Integer.MIN_VALUE + 1, -1000, -2, -1, 6, 7, 12, 13, 20, 21, 23, 24,
        100, 101, 149, 150, 151, 199, 200, 201, 1000, 1001, 3600, 60000, 60001, 86400, Integer.MAX_VALUE - 1, Integer.MAX_VALUE};

    public static void main(String[] args) throws Exception {
        List<Method> face = new ArrayList<>();
        for (Method method : WayTimes.class.getDeclaredMethods()) {
            if (Modifier.isPublic(method.getModifiers())) {
                face.add(method);
            }
        }
        // Reflection promises no order, and the same seed must make the same calls.
        face.sort(Comparator.comparing(Method::getName));
        for (int seed = 0; seed < 600; seed++) {
            run(face, new Random(seed));
        }
        DUE.end();
    }

    private static void run(List<Method> face, Random random) throws Exception {
        WayTimes x = new WayTimes();
        if (random.nextInt(10) > 0) {
            x.net(random.nextInt(10) == 0 ? 200 : 1 + random.nextInt(6));
        }
        for (int call = 0; call < 511; call++) {
            Method method = face.get(random.nextInt(face.size()));
            if (!method.getName().equals("net") || random.nextInt(40) == 0) {
                make(x, method, random);
            }
        }
    }

    private static void make(WayTimes x, Method method, Random random) throws Exception {
        Object[] arguments = new Object[method.getParameterCount()];
        for (int i = 0; i < arguments.length; i++) {
            arguments[i] = method.getParameterTypes()[i] == boolean.class ? (Object) random.nextBoolean()
                    : (Object) (random.nextInt(12) == 0 ? ODD[random.nextInt(ODD.length)] : random.nextInt(5));
        }
        try {
            method.invoke(x, arguments);
        } catch (InvocationTargetException e) {
            look(method, arguments, e.getCause());
        }
    }

    private static void look(Method method, Object[] arguments, Throwable thrown) {
        String call = method.getName() + List.of(arguments) + " threw " + thrown;
        if (!List.of(method.getExceptionTypes()).contains(thrown.getClass())) {
            DUE.tell(call + ", which its face does not name");
        }
        if (Due.byTheMachine(thrown)) {
            DUE.tell(call + ", by the machine");
        }
    }
}
