import java.lang.reflect.InvocationTargetException;
import java.lang.reflect.Method;
import java.lang.reflect.Modifier;
import java.util.Arrays;
import java.util.Comparator;
import java.util.List;
import java.util.Random;

/** Any call with any arguments answers: none throws, and one that is refused gives NONE, or false, and changes nothing. */
final class AnyCallTest {
    private static final Check CHECK = new Check();
    private static final int[] EDGES = {Integer.MIN_VALUE, -1, 0, 0, 1, 1, 2, 3, 4, 5, 6, 8, 9, 10, 16, 17, 20, 21, 60, 61, 255, 256, 9999, 10000, Integer.MAX_VALUE};
    private static final String EVENINGS = "loop 9;any;when falls gus;pull gus;end;when high may<2;prop bill;end;end;say ned soul;drop ned 2;";

    public static void main(String[] args) throws IllegalAccessException {
        Method[] methods = Arrays.stream(TalkChutes.class.getDeclaredMethods())
            .filter(m -> Modifier.isPublic(m.getModifiers()))
            .sorted(Comparator.comparing(Method::getName))
            .toArray(Method[]::new);
        for (int seed = 0; seed < 300; seed++) {
            run(methods, new Random(seed), seed);
        }
        CHECK.end("AnyCallTest");
    }

    private static void run(Method[] methods, Random random, int seed) throws IllegalAccessException {
        TalkChutes x = seed % 5 == 0 ? new TalkChutes() : Check.withTable(Check.TABLE);
        if (seed % 3 == 0) {
            Check.evenings(x, seed % 5 == 0 ? "any;" : EVENINGS);
        }
        for (int i = 0; i < 400; i++) {
            Method method = methods[random.nextInt(methods.length)];
            Object[] row = new Object[method.getParameterCount()];
            for (int k = 0; k < row.length; k++) {
                Class<?> type = method.getParameterTypes()[k];
                int edge = EDGES[random.nextInt(EDGES.length)];
                row[k] = type == boolean.class ? (Object) random.nextBoolean() : type == long.class ? (Object) (long) edge : edge;
            }
            boolean looked = i % 8 == 0;
            List<Long> before = looked ? Whole.stays(x) : null;
            String call = method.getName() + Arrays.toString(row);
            try {
                Object got = method.invoke(x, row);
                if (hasStatus(method.getName()) && x.status() != 0) {
                    CHECK.due(call + " refused", got instanceof Boolean b ? !b : ((Number) got).longValue() == -1, true);
                    CHECK.due(call + " changes nothing", !looked || changesByFault(x, method.getName()) || before.equals(Whole.stays(x)), true);
                }
            } catch (InvocationTargetException e) {
                CHECK.due(call + " threw " + e.getCause(), 1, 0);
            }
        }
    }

    private static boolean hasStatus(String name) {
        return !List.of("status", "fault", "feed", "top", "bottom").contains(name);
    }

    private static boolean changesByFault(TalkChutes x, String name) {
        return x.status() == 10 && (name.equals("table") || name.equals("evenings"));
    }
}
