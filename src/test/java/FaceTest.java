import java.lang.reflect.Constructor;
import java.lang.reflect.Field;
import java.lang.reflect.Method;
import java.lang.reflect.Modifier;
import java.nio.file.Files;
import java.nio.file.Path;
import java.util.ArrayList;
import java.util.HashSet;
import java.util.List;
import java.util.Set;
import java.util.TreeSet;

/** The public face of the document, and those rules of LANGUAGE.md that can be looked for. */
public final class FaceTest {
    private static final Due DUE = new Due();
    private static final String[] FACE = {
        "void net(int) IllegalArgumentException NegativeArraySizeException",
        "int piece(int,int,int,int) IllegalArgumentException IndexOutOfBoundsException UnsupportedOperationException",
        "int limit(int,int,int) IllegalArgumentException IndexOutOfBoundsException",
        "int slow(int,int,int,int) IllegalArgumentException IndexOutOfBoundsException UnsupportedOperationException",
        "int close(int,boolean) IllegalArgumentException IllegalStateException",
        "int speed(int,int) IllegalArgumentException IndexOutOfBoundsException",
        "int unit(int,int,int,int,int) IllegalArgumentException IndexOutOfBoundsException UnsupportedOperationException",
        "void stand(int,int) IllegalArgumentException",
        "long seconds(int,int,int) IllegalArgumentException IndexOutOfBoundsException ArithmeticException",
        "long way(int,int,int,int) IllegalArgumentException IndexOutOfBoundsException",
        "int step(int) IndexOutOfBoundsException",
        "long walk(int,int,int,int,int) IllegalArgumentException IndexOutOfBoundsException",
        "long rest(int,int,int,int,int) IllegalArgumentException IndexOutOfBoundsException",
        "int nearest(int,int) IllegalArgumentException IndexOutOfBoundsException",
        "void keep(int,int,int,int) IllegalArgumentException IndexOutOfBoundsException",
        "long kept(int,int) IllegalArgumentException ArrayIndexOutOfBoundsException",
    };
    private static final String[] RULED_OUT = {
        "->", "::", "try {", "try (", "catch (", "finally", "synchronized", "assert ", "Exact(", "static {", "import java.util.*",
        "Random", "System.nanoTime", "System.currentTimeMillis", "Thread", "System.out", "package ", " float ", " double ",
    };

    public static void main(String[] args) throws Exception {
        publicFace();
        nothingElseIsVisible();
        privateNamesDiffer();
        staticsAreFinal();
        source();
        DUE.end();
    }

    private static void expect(boolean holds, String what) {
        if (!holds) {
            DUE.tell(what);
        }
    }

    private static void publicFace() {
        Class<?> x = WayTimes.class;
        expect(Modifier.isPublic(x.getModifiers()) && Modifier.isFinal(x.getModifiers()), "public and final");
        Set<String> got = new TreeSet<>();
        for (Method method : x.getDeclaredMethods()) {
            if (Modifier.isPublic(method.getModifiers())) {
                got.add(told(method));
            }
        }
        Set<String> want = new TreeSet<>(List.of(FACE));
        expect(got.equals(want), "the face is " + got + ", due is " + want);
        Constructor<?>[] constructors = x.getConstructors();
        expect(constructors.length == 1 && constructors[0].getParameterCount() == 0, "one constructor of nothing");
    }

    private static String told(Method method) {
        List<String> parameters = new ArrayList<>();
        for (Class<?> parameter : method.getParameterTypes()) {
            parameters.add(parameter.getSimpleName());
        }
        StringBuilder told = new StringBuilder(method.getReturnType().getSimpleName());
        told.append(' ').append(method.getName()).append('(').append(String.join(",", parameters)).append(')');
        for (Class<?> thrown : method.getExceptionTypes()) {
            told.append(' ').append(thrown.getSimpleName());
        }
        return told.toString();
    }

    private static void nothingElseIsVisible() {
        for (Method method : WayTimes.class.getDeclaredMethods()) {
            int is = method.getModifiers();
            expect(Modifier.isPublic(is) || Modifier.isPrivate(is), method + " is visible");
        }
        for (Field field : WayTimes.class.getDeclaredFields()) {
            expect(Modifier.isPrivate(field.getModifiers()), field + " is visible");
        }
        expect(WayTimes.class.getDeclaredConstructors().length == 1, "one constructor alone");
        Class<?>[] inside = WayTimes.class.getDeclaredClasses();
        expect(inside.length <= 11, "at most some twelve classes");
        for (Class<?> one : inside) {
            int is = one.getModifiers();
            expect(Modifier.isStatic(is) && !Modifier.isPublic(is) && !Modifier.isProtected(is), one + " inside");
            expect(one.getDeclaredFields().length <= 20, one + " has too many fields");
        }
    }

    private static void privateNamesDiffer() {
        Set<String> names = new HashSet<>();
        for (String line : FACE) {
            names.add(line.substring(line.indexOf(' ') + 1, line.indexOf('(')));
        }
        List<Method> others = new ArrayList<>();
        for (Method method : WayTimes.class.getDeclaredMethods()) {
            if (!Modifier.isPublic(method.getModifiers())) {
                others.add(method);
            }
        }
        for (Class<?> one : WayTimes.class.getDeclaredClasses()) {
            others.addAll(List.of(one.getDeclaredMethods()));
        }
        for (Method method : others) {
            expect(!names.contains(method.getName()), method + " bears the name of a public one");
            expect(method.getParameterCount() <= 7, method + " takes more than seven");
        }
    }

    private static void staticsAreFinal() {
        for (Field field : WayTimes.class.getDeclaredFields()) {
            int is = field.getModifiers();
            expect(!Modifier.isStatic(is) || Modifier.isFinal(is), field + " is static and not final");
        }
        for (Class<?> one : WayTimes.class.getDeclaredClasses()) {
            for (Field field : one.getDeclaredFields()) {
                expect(!Modifier.isStatic(field.getModifiers()), field + " is static");
            }
        }
    }

    private static void source() throws Exception {
        String text = Files.readString(Path.of("src/main/java/WayTimes.java"));
        for (String word : RULED_OUT) {
            expect(!text.contains(word), "the source holds '" + word + "'");
        }
        for (int i = 0; i < text.length(); i++) {
            if (text.charAt(i) > 127) {
                DUE.tell("the source holds a character beyond ASCII at " + i);
                return;
            }
        }
    }
}
