import java.lang.reflect.InvocationTargetException;
import java.lang.reflect.Method;
import java.util.Arrays;

/** Every call with every mixture of extreme numbers: none throws, and findings, and they alone, are counted. */
public final class Extremes extends Edges {
    private static final long[] NUMBERS = {LOW, -2, -1, 0, 1, 2, 3, 6, 8, 41, 61, 101, HIGH};
    private static final long[] FEWER = {LOW, -1, 0, 1, 3, 4, 40, 41, HIGH};
    /** None that is like a finding, as a number on a sheet may be. */
    private static final long[] LONGS = {-129, -1, 0, 300};
    private static final int CALLS_OF_ONE = 200;

    private static SeeSawHearts object;
    private static int calls;

    private static void renew(Scene scene) {
        object = scene.made();
        calls = 0;
    }

    private static Object argument(Class<?> type, long v) {
        if (type == long.class) {
            return v;
        }
        return (int) v;
    }

    private static void ask(Method m, Object[] arguments) throws IllegalAccessException {
        String name = m.getName() + Arrays.toString(arguments);
        int before = object.status(-1);
        try {
            long got = ((Number) m.invoke(object, arguments)).longValue();
            boolean isFinding = got < -1000000000L;
            due(name + " answered " + got + ", so status(-1)", object.status(-1), before + (isFinding ? 1 : 0));
            due(name + " answered a finding that there is", !isFinding || got >= SIZE ? 1 : 0, 1);
        } catch (InvocationTargetException e) {
            due(name + " threw " + e.getCause(), 1, 0);
        }
    }

    private static void askAll(Scene scene, Method m) throws IllegalAccessException {
        Class<?>[] types = m.getParameterTypes();
        long[] numbers = types.length > 3 ? FEWER : NUMBERS;
        int all = 1;
        for (Class<?> type : types) {
            all *= type == long.class ? LONGS.length : numbers.length;
        }
        for (int k = 0; k < all; k++) {
            Object[] arguments = new Object[types.length];
            int rest = k;
            for (int i = 0; i < types.length; i++) {
                long[] from = types[i] == long.class ? LONGS : numbers;
                arguments[i] = argument(types[i], from[rest % from.length]);
                rest /= from.length;
            }
            if (calls >= CALLS_OF_ONE) {
                renew(scene);
            }
            ask(m, arguments);
            calls++;
        }
    }

    public static void main(String[] args) throws IllegalAccessException {
        Method[] methods = SeeSawHearts.class.getDeclaredMethods();
        Arrays.sort(methods, (a, b) -> a.getName().compareTo(b.getName()));
        for (Scene scene : new Scene[] {Edges::empty, Edges::busy, Edges::full}) {
            for (Method m : methods) {
                if (java.lang.reflect.Modifier.isPublic(m.getModifiers())) {
                    promise(0);
                    renew(scene);
                    askAll(scene, m);
                }
            }
        }
        end();
    }
}
