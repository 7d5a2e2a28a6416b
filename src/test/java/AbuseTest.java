import java.lang.reflect.InvocationTargetException;
import java.lang.reflect.Method;
import java.util.Arrays;
import java.util.Comparator;
import java.util.Random;

/** Any arguments in any state: no call throws, and the same calls give the same answers. */
public final class AbuseTest {
    private static final Check CHECK = new Check("AbuseTest");
    private static final long[] EDGES = {0, 1, 2, 3, 4, 5, 6, 7, 8, 9, 10, 18, 19, 20, 21, 30, 31, 59, 60, 61, 99, 100, 127,
        128, 250, 255, 256, 800, 999, 1000, 2000, 2001, 5000, 5001, 10000, 10001, 65536, 2000000000, 2000000001,
        Integer.MAX_VALUE, Integer.MIN_VALUE, -1, -2, -1000, Long.MAX_VALUE, Long.MIN_VALUE};
    private static final String[] PARTS = {"gorge far ", "4", " far ", "6", " odds ", "2", ";", "man on ", "0", " grip ", "10",
        " wits ", "3", "clause says ", " gives ", " takes ", "wind from ", " to ", "pot ", "1", "\n", "99999999999", "#"};
    private static final String LINES = "gorge far 3 far 4 odds 1; man on 0 grip 9 wits 2; man on 1 grip 7 wits 9;";

    public static void main(String[] args) throws ReflectiveOperationException {
        for (long seed = 0; seed < 300; seed++) {
            long first = run(new Random(seed), 512);
            CHECK.due("the same calls, seed " + seed, run(new Random(seed), 512), first);
        }
        CHECK.finish();
    }

    private static long run(Random random, int calls) throws ReflectiveOperationException {
        Method[] methods = Arrays.stream(WristTreaty.class.getDeclaredMethods())
                .filter(m -> m.getModifiers() == java.lang.reflect.Modifier.PUBLIC)
                .sorted(Comparator.comparing(Method::getName)).toArray(Method[]::new);
        WristTreaty x = new WristTreaty();
        long told = 0;
        for (int i = 0; i < calls; i++) {
            if (random.nextInt(20) == 0) {
                Check.read(x, text(random));
            }
            Method method = methods[random.nextInt(methods.length)];
            told = 31 * told + call(x, method, random);
        }
        return told;
    }

    private static String text(Random random) {
        StringBuilder text = new StringBuilder(random.nextInt(4) == 0 ? "" : LINES);
        for (int lines = random.nextInt(20); lines > 0; lines--) {
            switch (random.nextInt(4)) {
                case 0:
                    text.append("man on " + random.nextInt(2) + " grip 5 wits " + random.nextInt(10) + ";");
                    break;
                case 1:
                    text.append("clause says " + (1 + random.nextInt(9)) + " takes " + random.nextInt(9) + " gives 7;");
                    break;
                case 2:
                    text.append("pot " + random.nextInt(21) + ";");
                    break;
                default:
                    text.append(random.nextInt(6) == 0 ? PARTS[random.nextInt(PARTS.length)] : "wind from 4 to 9;");
                    break;
            }
        }
        return text.toString();
    }

    private static long call(WristTreaty x, Method method, Random random) throws ReflectiveOperationException {
        Class<?>[] types = method.getParameterTypes();
        Object[] values = new Object[types.length];
        for (int i = 0; i < types.length; i++) {
            long value = random.nextInt(3) > 0 ? random.nextInt(5) : EDGES[random.nextInt(EDGES.length)];
            if (types[i] == int.class) {
                values[i] = (int) value;
            } else {
                values[i] = value;
            }
        }
        try {
            return ((Number) method.invoke(x, values)).longValue();
        } catch (InvocationTargetException e) {
            CHECK.due(method.getName() + Arrays.toString(values) + " threw " + e.getCause(), 1, 0);
            return 0;
        }
    }
}
