import java.lang.reflect.InvocationTargetException;
import java.lang.reflect.Method;
import java.lang.reflect.Modifier;
import java.util.Arrays;
import java.util.Comparator;
import java.util.Random;

/** Every call with arguments from the edges of all ranges, in states that such calls lead to: none may throw. */
public final class AnyArgumentsTest {
    private static final Check CHECK = new Check("AnyArgumentsTest");
    private static final int[] EDGES = {Integer.MIN_VALUE, Integer.MIN_VALUE + 1, -1000, -2, -1, 0, 1, 2, 3, 4, 5, 6, 7, 8, 9,
        10, 12, 15, 16, 20, 23, 24, 31, 32, 40, 41, 60, 61, 99, 100, 250, 900, 999, 1000, 1 << 16, Integer.MAX_VALUE - 1,
        Integer.MAX_VALUE};
    private static final Random RANDOM = new Random(7);

    public static void main(String[] args) throws Exception {
        Method[] all = OneHeavyLoad.class.getDeclaredMethods();
        Method[] calls = Arrays.stream(all).filter(m -> Modifier.isPublic(m.getModifiers())).toArray(Method[]::new);
        Arrays.sort(calls, Comparator.comparing(Method::getName));
        for (int run = 0; run < 400; run++) {
            OneHeavyLoad x = new OneHeavyLoad();
            if (run % 2 == 0) {
                fill(x);
            }
            for (int call = 0; call < 1000; call++) {
                one(x, calls[RANDOM.nextInt(calls.length)]);
            }
        }
        CHECK.end();
    }

    private static void fill(OneHeavyLoad x) {
        for (int i = 0; i < 24; i++) {
            x.road(i % 16, (i + 1 + i / 16) % 16, 1 + i, i % 10, 99, i % 16);
            x.bridge(i, i % 6, i, 20 + i, 100 + 9 * i);
            x.prop(i, 50 * i, i);
        }
        for (int i = 0; i < 5; i++) {
            x.waggon(2 + 2 * i, 1 + i, i);
            x.part(1 + 9 * i, i);
        }
    }

    private static void one(OneHeavyLoad x, Method call) throws Exception {
        Class<?>[] types = call.getParameterTypes();
        Object[] given = new Object[types.length];
        for (int i = 0; i < types.length; i++) {
            int v = RANDOM.nextInt(3) == 0 ? EDGES[RANDOM.nextInt(EDGES.length)] : RANDOM.nextInt(6);
            given[i] = types[i] == boolean.class ? (Object) (v % 2 == 0) : types[i] == long.class ? (Object) (v * 65537L) : (Object) v;
        }
        String thrown = null;
        try {
            call.invoke(x, given);
        } catch (InvocationTargetException e) {
            thrown = e.getCause().toString();
        }
        CHECK.due(call.getName() + Arrays.toString(given) + " threw " + thrown, thrown == null ? 0 : 1, 0);
    }
}
