import java.lang.reflect.InvocationTargetException;
import java.lang.reflect.Method;
import java.lang.reflect.Modifier;
import java.util.ArrayList;
import java.util.Arrays;
import java.util.List;
import java.util.Map;
import java.util.TreeMap;

/** The calls of the face by their names. */
final class Calls {
    private static final Map<String, Method> BY_NAME = new TreeMap<>();

    static {
        for (Method m : TunnelPeace.class.getDeclaredMethods()) {
            if (Modifier.isPublic(m.getModifiers())) {
                BY_NAME.put(m.getName(), m);
            }
        }
    }

    private Calls() {
    }

    static List<String> names() {
        return new ArrayList<>(BY_NAME.keySet());
    }

    static int parameters(String name) {
        return BY_NAME.get(name).getParameterCount();
    }

    static long call(TunnelPeace x, String name, int... a) {
        Object[] boxed = new Object[a.length];
        for (int i = 0; i < a.length; i++) {
            boxed[i] = a[i];
        }
        try {
            return ((Number) BY_NAME.get(name).invoke(x, boxed)).longValue();
        } catch (IllegalAccessException | InvocationTargetException e) {
            throw new IllegalStateException(told(name, a) + " threw", e);
        }
    }

    static String told(String name, int... a) {
        String row = Arrays.toString(a);
        return name + "(" + row.substring(1, row.length() - 1) + ")";
    }
}
