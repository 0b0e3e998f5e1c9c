import java.lang.reflect.InvocationTargetException;
import java.lang.reflect.Method;
import java.lang.reflect.Modifier;
import java.util.Arrays;
import java.util.HashMap;
import java.util.Map;
import java.util.Set;

/** Calls by their names, of FiddlerDebts and of SlowVillage alike. */
final class Calls {
    private static final Map<Class<?>, Map<String, Method>> FACES = new HashMap<>();

    private Calls() {
    }

    /** Asks with the first of the numbers, as many as the call takes. */
    static int ask(Object village, String name, int... a) {
        Method call = FACES.computeIfAbsent(village.getClass(), Calls::faceOf).get(name);
        Object[] given = Arrays.stream(a).limit(call.getParameterCount()).boxed().toArray();
        try {
            return (int) call.invoke(village, given);
        } catch (InvocationTargetException thrown) {
            if (thrown.getCause() instanceof RuntimeException cause) {
                throw cause;
            }
            throw new IllegalStateException(thrown);
        } catch (IllegalAccessException hidden) {
            throw new IllegalStateException(hidden);
        }
    }

    static Set<String> names(Class<?> kind) {
        return faceOf(kind).keySet();
    }

    private static Map<String, Method> faceOf(Class<?> kind) {
        Map<String, Method> face = new HashMap<>();
        for (Method m : kind.getDeclaredMethods()) {
            boolean ofNumbers = Arrays.stream(m.getParameterTypes()).allMatch(t -> t == int.class);
            if (ofNumbers && m.getReturnType() == int.class && !Modifier.isPrivate(m.getModifiers())) {
                face.put(m.getName(), m);
            }
        }
        return face;
    }
}
