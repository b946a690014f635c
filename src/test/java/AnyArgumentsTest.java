import java.lang.reflect.InvocationTargetException;
import java.lang.reflect.Method;
import java.util.ArrayList;
import java.util.Arrays;
import java.util.Comparator;
import java.util.List;
import java.util.Random;

/** Every call with any arguments, in any order: none throws, and each answers as the Model does. */
public final class AnyArgumentsTest {
    private static final long[] EDGES = {0, 1, -1, 2, 3, 4, 5, 6, 7, 8, 9, 10, 11, 15, 16, 23, 24, 29, 30, 31, 49, 50, 59, 60,
        61, 63, 64, 100, 119, 120, 200, 230, 231, 255, 256, 930, 999, 1000, 1023, 1024, 32767, 32768, Integer.MAX_VALUE,
        Integer.MIN_VALUE, Integer.MAX_VALUE - 1, Integer.MIN_VALUE + 1, -2, -3, -5, 1L << 31, 1L << 32, (1L << 62) - 1,
        1L << 62, Long.MAX_VALUE, Long.MIN_VALUE, Long.MIN_VALUE + 1, '(', ')', 'p', '!', ';', '?', '='};

    public static void main(String[] args) throws ReflectiveOperationException {
        Due due = new Due("AnyArgumentsTest");
        List<Method> methods = methods();
        due.is("how many methods", methods.size(), 35);
        for (int seed = 0; seed < 400; seed++) {
            Random random = new Random(seed);
            OneLamp lamp = new OneLamp();
            Model model = new Model();
            for (int k = 0; k < 512; k++) {
                Method method = methods.get(random.nextInt(methods.size()));
                Object[] arguments = arguments(method, random, seed % 3);
                Method same = Model.class.getDeclaredMethod(method.getName(), method.getParameterTypes());
                String call = "seed " + seed + ", call " + k + ", " + method.getName() + Arrays.toString(arguments);
                due.is(call, answer(method, lamp, arguments, call), answer(same, model, arguments, call));
            }
        }
        due.end();
    }

    private static List<Method> methods() {
        List<Method> methods = new ArrayList<>();
        for (Method method : OneLamp.class.getDeclaredMethods()) {
            if (java.lang.reflect.Modifier.isPublic(method.getModifiers())) {
                methods.add(method);
            }
        }
        methods.sort(Comparator.comparing(Method::getName));
        return methods;
    }

    private static Object[] arguments(Method method, Random random, int wildness) {
        Class<?>[] types = method.getParameterTypes();
        Object[] arguments = new Object[types.length];
        for (int k = 0; k < types.length; k++) {
            boolean small = random.nextInt(3) >= wildness;
            long v = small ? random.nextInt(6) - random.nextInt(2) : EDGES[random.nextInt(EDGES.length)];
            arguments[k] = types[k] == long.class ? (Object) v : (Object) (int) v;
        }
        return arguments;
    }

    private static long answer(Method method, Object on, Object[] arguments, String call) throws ReflectiveOperationException {
        try {
            return ((Number) method.invoke(on, arguments)).longValue();
        } catch (InvocationTargetException thrown) {
            System.out.println(call + " threw " + thrown.getCause());
            return on instanceof OneLamp ? -987654321 : -987654320;
        }
    }
}
