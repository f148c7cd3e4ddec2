import java.lang.reflect.InvocationTargetException;
import java.lang.reflect.Method;
import java.lang.reflect.Modifier;
import java.util.Arrays;
import java.util.HashMap;
import java.util.Map;

/** The calls of the face by their names, asked of TwoReels and of PlainModel alike. */
final class Calls {
    private static final Map<String, Method> FOUND = new HashMap<>();

    private Calls() {
    }

    /** A number stands for an int or a long as it is, for a boolean by being not 0. */
    static int ask(Object x, String call, long... numbers) {
        Method method = FOUND.computeIfAbsent(x.getClass().getName() + "." + call, key -> find(x.getClass(), call));
        Class<?>[] types = method.getParameterTypes();
        Object[] taken = new Object[types.length];
        for (int i = 0; i < types.length; i++) taken[i] = as(types[i], numbers[i]);
        try {
            return (Integer) method.invoke(x, taken);
        } catch (InvocationTargetException thrown) {
            Due.holds(told(call, numbers) + " ends with " + thrown.getCause(), false);
            return Integer.MIN_VALUE;
        } catch (IllegalAccessException closed) {
            throw new IllegalStateException(closed);
        }
    }

    static String told(String call, long... numbers) {
        String inside = Arrays.toString(numbers);
        return call + "(" + inside.substring(1, inside.length() - 1) + ")";
    }

    /** THE LETTERS become this text; text() is not asked. */
    static void feedText(Object x, String text) {
        ask(x, "end", 0);
        for (long eight : Due.eights(text)) ask(x, "feed", eight);
        ask(x, "end", text.length());
    }

    private static Object as(Class<?> type, long number) {
        if (type == boolean.class) return number != 0;
        return type == long.class ? (Object) number : (Object) (int) number;
    }

    private static Method find(Class<?> of, String call) {
        for (Method m : of.getDeclaredMethods()) {
            if (!m.getName().equals(call) || Modifier.isPrivate(m.getModifiers())) continue;
            m.setAccessible(true);
            return m;
        }
        throw new IllegalStateException(of + " has no " + call);
    }
}
