import java.lang.reflect.InvocationTargetException;
import java.lang.reflect.Method;
import java.lang.reflect.Modifier;
import java.util.Arrays;
import java.util.Set;
import java.util.TreeSet;

/**
 * Every call that takes numbers, by each of its numbers: the least and the greatest that may be are not BAD; one below
 * and one above them, and the ends of int, are, and change nothing but how many there were.
 */
public final class RangesTest {
    private static final Check CHECK = new Check("RangesTest");
    private static final Twins SOME = new Twins(CHECK, Lands::some);
    private static final int MIN = Integer.MIN_VALUE;
    private static final int MAX = Integer.MAX_VALUE;
    private static final Set<String> TRIED = new TreeSet<>();

    // What Lands.some() has.
    private static final int[] SHELF = {0, 7};
    private static final int[] ROAD = {0, 3};
    private static final int[] BRIDGE = {0, 5};
    private static final int[] WAGGON = {0, 1};
    private static final int[] PARTS = {0, 7};
    private static final int[] PLACE = {0, 15};
    private static final int[] ANY = {};

    public static void main(String[] args) {
        shelves();
        land();
        packs();
        ways();
        allTried();
        CHECK.end();
    }

    /** element, holds and status take every number: nothing is refused there. */
    private static void allTried() {
        Set<String> never = Set.of("element", "holds", "status");
        for (Method m : OneHeavyLoad.class.getDeclaredMethods()) {
            boolean takesNumbers = Modifier.isPublic(m.getModifiers()) && m.getParameterCount() > 0;
            if (takesNumbers && !never.contains(m.getName())) {
                CHECK.due(m.getName() + " is tried", TRIED.contains(m.getName()) ? 1 : 0, 1);
            }
        }
    }

    private static int[] to(int least, int greatest) {
        return new int[] {least, greatest};
    }

    private static void shelves() {
        ranges("row", good(6, 2, 3), SHELF, to(0, 4), to(0, 40));
        ranges("set", good(0, 2, 5), SHELF, to(0, 4), ANY);
        ranges("copy", good(0, 7, 1, 2, 2), SHELF, SHELF, to(0, 3), to(0, 3), to(0, 3));
        ranges("show", good(6, 2), SHELF, to(-1, 5));
        ranges("says", good(2, 4), SHELF, to(0, 5));
    }

    private static void land() {
        ranges("road", good(4, 5, 10, 1, 50, 2), PLACE, PLACE, to(1, 60), to(0, 9), to(1, 99), to(0, 15));
        ranges("bridge", good(1, 1, 10, 10, 10), ROAD, to(0, 5), to(0, 60), to(1, 99), to(1, 999));
        ranges("prop", good(1, 10, 10), BRIDGE, to(0, 999), to(0, 999));
        ranges("waggon", good(5, 5, 5), to(2, 12), to(1, 9), to(0, 99));
        ranges("part", good(5, 5), to(1, 99), to(0, 99));
        ranges("ask", good(0, 1), to(0, 2), to(0, 900));
        ranges("ask", good(1, 1), to(0, 2), to(0, 99));
        ranges("ask", good(2, 1), to(0, 2), to(0, 1));
        ranges("stand", good(1, 1, 1), BRIDGE, to(0, 2), ANY);
        ranges("shut", good(1, 1), ROAD, ANY);
        ranges("feed", good(' ', 1), ANY, to(1, 4));
    }

    private static void packs() {
        ranges("roadOf", good(1, 1), ROAD, to(0, 6));
        ranges("bridgeOf", good(1, 1), BRIDGE, to(0, 9));
        ranges("bears", good(1, 1), BRIDGE, ANY);
        ranges("length", good(1), WAGGON);
        ranges("axle", good(1, 1), WAGGON, PARTS);
        ranges("strain", good(1, 1, 1), WAGGON, PARTS, BRIDGE);
        ranges("needs", good(1, 1, 1), WAGGON, PARTS, BRIDGE);
        ranges("goes", good(1, 1, 1, 1), WAGGON, PARTS, ROAD, to(0, 4));
    }

    private static void ways() {
        ranges("cheapest", good(0, 1, 0, 2), WAGGON, PARTS, PLACE, PLACE);
        ranges("soonest", good(0, 1, 0, 2), WAGGON, PARTS, PLACE, PLACE);
        ranges("again", good(0, 1, 0, 2, 5), WAGGON, PARTS, PLACE, PLACE, to(1, 20));
        ranges("best", good(0, 2, 1), PLACE, PLACE, to(0, 2));
        ranges("judge", good(0, 1, 0, 5, 3), WAGGON, PARTS, PLACE, SHELF, to(0, 20));
        ranges("told", good(0, 1, 0, 5, 0, 1), WAGGON, PARTS, PLACE, SHELF, to(0, 20), to(0, 3));
        ranges("reach", good(0, 1, 0), WAGGON, PARTS, PLACE);
        ranges("hang", good(0, 1, 0, 2), WAGGON, PARTS, PLACE, PLACE);
        ranges("fewest", good(0, 0, 2), WAGGON, PLACE, PLACE);
        ranges("most", good(0, 0, 2), WAGGON, PLACE, PLACE);
        ranges("frost", good(0, 1, 0, 2, 3, 4, 5), WAGGON, PARTS, PLACE, PLACE, to(0, 6), to(0, 10), to(0, 999));
        ranges("begin", good(0, 1, 0, 2), WAGGON, PARTS, PLACE, PLACE);
        ranges("under", good(1), to(0, 4));
    }

    private static int[] good(int... numbers) {
        return numbers;
    }

    /** An empty range: every number may be. */
    private static void ranges(String name, int[] good, int[]... bounds) {
        TRIED.add(name);
        SOME.notBad(name + Arrays.toString(good), x -> call(x, name, good));
        for (int k = 0; k < good.length; k++) {
            if (bounds[k].length == 0) {
                for (int v : new int[] {MIN, -1, 0, 1, MAX}) {
                    notBad(name, good, k, v);
                }
                continue;
            }
            notBad(name, good, k, bounds[k][0]);
            notBad(name, good, k, bounds[k][1]);
            for (int v : new int[] {MIN, MIN + 1, bounds[k][0] - 1, bounds[k][1] + 1, MAX - 1, MAX}) {
                int[] wrong = with(good, k, v);
                SOME.refused(name + Arrays.toString(wrong), -2, x -> call(x, name, wrong));
            }
        }
    }

    private static void notBad(String name, int[] good, int k, int v) {
        int[] numbers = with(good, k, v);
        SOME.notBad(name + Arrays.toString(numbers), x -> call(x, name, numbers));
    }

    private static int[] with(int[] good, int k, int v) {
        int[] numbers = good.clone();
        numbers[k] = v;
        return numbers;
    }

    private static long call(OneHeavyLoad x, String name, int[] numbers) {
        Method method = Arrays.stream(OneHeavyLoad.class.getMethods()).filter(m -> m.getName().equals(name)).findFirst().get();
        Class<?>[] types = method.getParameterTypes();
        Object[] given = new Object[types.length];
        for (int i = 0; i < types.length; i++) {
            int v = numbers[i];
            given[i] = types[i] == boolean.class ? (Object) (v > 0) : types[i] == long.class ? (Object) (long) v : (Object) v;
        }
        try {
            return ((Number) method.invoke(x, given)).longValue();
        } catch (InvocationTargetException | IllegalAccessException e) {
            throw new IllegalStateException(name + Arrays.toString(numbers), e);
        }
    }
}
