import java.lang.reflect.InvocationTargetException;
import java.lang.reflect.Method;
import java.lang.reflect.Modifier;
import java.util.Arrays;
import java.util.Comparator;
import java.util.Random;

/** Any call with any arguments in any state ends with an answer, and twice with the same one. */
public final class NeverThrowsTest {
    private static final Check check = new Check("NeverThrowsTest");
    private static final int OBJECTS = 300;
    private static final int CALLS = 512;
    private static final int[] EDGES = {Integer.MIN_VALUE, Integer.MIN_VALUE + 1, -65536, -30, -7, -2, -1, 0, 1, 2, 3, 4, 5, 6,
        7, 8, 9, 10, 11, 15, 16, 17, 18, 31, 32, 39, 40, 41, 59, 60, 61, 99, 100, 255, 256, 899, 900, 901, 9999, 10000, 65535,
        65536, Integer.MAX_VALUE - 1, Integer.MAX_VALUE};

    public static void main(String[] args) throws IllegalAccessException {
        Method[] calls = RopeMoon.class.getDeclaredMethods();
        calls = Arrays.stream(calls).filter(m -> Modifier.isPublic(m.getModifiers())).toArray(Method[]::new);
        Arrays.sort(calls, Comparator.comparing(Method::getName));
        for (int i = 0; i < OBJECTS && check.wrong() == 0; i++) {
            long first = run(calls, i);
            check.due("the same calls of run " + i, run(calls, i), first);
        }
        check.finish();
    }

    /** A number made of all answers. */
    private static long run(Method[] calls, int seed) throws IllegalAccessException {
        Random random = new Random(seed);
        RopeMoon x = new RopeMoon();
        long sum = 0;
        for (int i = 0; i < CALLS; i++) {
            if (random.nextInt(25) == 0) {
                sum = 31 * sum + Check.tell(x, text(random));
            }
            Method call = calls[random.nextInt(calls.length)];
            Object[] given = new Object[call.getParameterCount()];
            for (int k = 0; k < given.length; k++) {
                given[k] = argument(call.getParameterTypes()[k], random);
            }
            try {
                sum = 31 * sum + ((Number) call.invoke(x, given)).longValue();
            } catch (InvocationTargetException thrown) {
                check.due(call.getName() + Arrays.toString(given) + " threw " + thrown.getCause(), 1, 0);
                return sum;
            }
        }
        return sum;
    }

    private static Object argument(Class<?> type, Random random) {
        if (type == boolean.class) {
            return random.nextBoolean();
        }
        int some = switch (random.nextInt(3)) {
            case 0 -> random.nextInt(4);
            case 1 -> EDGES[random.nextInt(EDGES.length)];
            default -> random.nextInt(20) == 0 ? random.nextInt() : random.nextInt(17);
        };
        return type == long.class ? (Object) (random.nextInt(4) == 0 ? random.nextLong() : some) : (Object) some;
    }

    /** Plains that are full of all there can be, or nearly empty. */
    private static String text(Random random) {
        int n = random.nextInt(17);
        StringBuilder t = new StringBuilder();
        for (int s = 0; s < n; s++) {
            t.append("strip ").append(random.nextInt(100)).append(" reapers ").append(random.nextInt(10));
            t.append(" tree ").append(random.nextInt(31)).append(" farm ").append(random.nextInt(6)).append(';');
        }
        t.append("lamp ").append(n > 0 ? "at " + random.nextInt(n) : "").append(" height ").append(1 + random.nextInt(30));
        t.append(" power ").append(random.nextInt(21)).append(" fade ").append(random.nextInt(10)).append(';');
        t.append("oil ").append(random.nextBoolean() ? random.nextInt(10) : random.nextInt(1000)).append(';');
        return t.append(random.nextInt(10) == 0 ? "?" : "").toString();
    }
}
