import java.lang.reflect.Constructor;
import java.lang.reflect.Field;
import java.lang.reflect.Method;
import java.lang.reflect.Modifier;
import java.util.Arrays;
import java.util.Map;
import java.util.Set;
import java.util.TreeMap;
import java.util.TreeSet;

/** The public face, just as the document writes it, and nothing besides. */
public final class FaceTest {
    private static final String I = "IndexOutOfBoundsException";
    private static final String A = "IllegalArgumentException";
    private static final String S = "IllegalStateException";

    private static final Set<String> METHODS = Set.of(
            "boolean knows(int,int,boolean)" + I, "int has(int,int)" + I, "int step(int,int,int,int)" + I + A + S,
            "int tear()" + S, "boolean ill(int)" + I, "boolean ban(int)" + I, "void travel()" + S,
            "int gag(int,int,int)" + I + A + S, "int points(int,int)" + I + A, "void night(int)" + A + S,
            "int enter(int)" + I + S, "int exit(int)" + I + S, "int tell(int,int,int)" + I + A + S,
            "int give(int,int,int)" + I + A + S, "int take(int,int)" + I + S, "int greet(int,int)" + I + A + S,
            "int play(int,int)" + I + S, "int state()", "int next()", "boolean can()", "int way()", "int wayAnew()",
            "boolean isKnown(int,int)" + I, "int holder(int)" + I, "int count(int)" + A, "double share(int)" + I);

    private static final Map<String, Integer> CONSTANTS = new TreeMap<>(Map.of(
            "NONE", -1, "TELL", 0, "GIVE", 1, "ENTER", 2, "EXIT", 3, "MEET", 4, "TAKE", 5));

    static {
        CONSTANTS.putAll(Map.of("NO_NIGHT", 0, "PLAYS", 1, "CLOSED", 2, "LATE", 3, "BLOCKED", 0, "TAKEN", 1, "DONE", 2));
    }

    public static void main(String[] args) throws IllegalAccessException {
        Set<String> methods = new TreeSet<>();
        Set<String> hidden = new TreeSet<>();
        for (Method m : MaskHall.class.getDeclaredMethods()) {
            if (Modifier.isPrivate(m.getModifiers())) {
                hidden.add(m.getName());
            } else if (!m.isSynthetic()) {
                methods.add(written(m));
            }
        }
        need(new TreeSet<>(METHODS), methods);
        for (Method m : MaskHall.class.getMethods()) {
            need(false, hidden.contains(m.getName()));
        }

        Map<String, Integer> constants = new TreeMap<>();
        for (Field f : MaskHall.class.getDeclaredFields()) {
            if (!Modifier.isPrivate(f.getModifiers())) {
                need("public static final", Modifier.toString(f.getModifiers()));
                constants.put(f.getName(), f.getInt(null));
            }
            need(true, !Modifier.isStatic(f.getModifiers()) || Modifier.isFinal(f.getModifiers()));
        }
        need(CONSTANTS, constants);

        Constructor<?>[] constructors = MaskHall.class.getDeclaredConstructors();
        need(1, constructors.length);
        need(0, constructors[0].getParameterCount());
        need("public", Modifier.toString(constructors[0].getModifiers()));
        need("public final", Modifier.toString(MaskHall.class.getModifiers()));
        System.out.println("the face is as written");
    }

    private static String written(Method m) {
        StringBuilder text = new StringBuilder();
        need("public", Modifier.toString(m.getModifiers()));
        text.append(m.getReturnType()).append(' ').append(m.getName()).append('(');
        text.append(String.join(",", Arrays.stream(m.getParameterTypes()).map(Class::getName).toList())).append(')');
        for (Class<?> e : m.getExceptionTypes()) {
            text.append(e.getSimpleName());
        }
        return text.toString();
    }

    private static void need(Object want, Object got) {
        if (!want.equals(got)) {
            System.out.println("got " + got + ", due " + want);
            System.exit(1);
        }
    }
}
