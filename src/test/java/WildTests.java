import java.lang.reflect.InvocationTargetException;
import java.lang.reflect.Method;
import java.util.Arrays;
import java.util.Comparator;
import java.util.Random;

/** Any arguments in any state: a call throws what its signature says and nothing else, and then changes nothing. */
public final class WildTests {
    private static final Checks CHECKS = new Checks();
    private static final int[] EDGES = {
        Integer.MIN_VALUE, Integer.MIN_VALUE + 1, -1001, -101, -11, -2, -1, 0, 1, 2, 3, 4, 5, 6, 7, 8, 9, 10, 11, 12,
        13, 20, 21, 30, 31, 32, 33, 49, 50, 51, 99, 100, 101, 127, 128, 999, 1000, 1001, 1999, 2000, 2001, 99999,
        100000, 100001, Integer.MAX_VALUE - 1, Integer.MAX_VALUE
    };

    public static void main(String[] args) throws IllegalAccessException {
        Method[] methods = Arrays.stream(OccupancyMonitor.class.getDeclaredMethods())
                .filter(method -> java.lang.reflect.Modifier.isPublic(method.getModifiers()))
                .sorted(Comparator.comparing(Method::getName))
                .toArray(Method[]::new);
        for (int seed = 0; seed < 300; seed++) {
            play(methods, new Random(seed));
        }
        CHECKS.finish();
    }

    private static void play(Method[] methods, Random random) throws IllegalAccessException {
        OccupancyMonitor x = Checks.withPlan("0-31:1;0-5:2;");
        for (int call = 0; call < 150; call++) {
            Method method = methods[random.nextInt(methods.length)];
            Object[] values = new Object[method.getParameterCount()];
            for (int index = 0; index < values.length; index++) {
                boolean small = random.nextInt(3) > 0;
                values[index] = small ? random.nextInt(32) : EDGES[random.nextInt(EDGES.length)];
            }
            make(x, method, values);
        }
    }

    private static void make(OccupancyMonitor x, Method method, Object[] values) throws IllegalAccessException {
        long before = x.digest();
        try {
            method.invoke(x, values);
        } catch (InvocationTargetException thrown) {
            String name = method.getName() + Arrays.toString(values);
            Class<?> kind = thrown.getCause().getClass();
            boolean told = Arrays.asList(method.getExceptionTypes()).contains(kind);
            CHECKS.dueText(name + " throws " + kind + ", which its signature", told ? "tells" : "hides", "tells");
            CHECKS.due(name + " changes the digest", x.digest(), before);
        }
    }
}
