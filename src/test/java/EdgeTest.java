import java.lang.reflect.InvocationTargetException;
import java.lang.reflect.Method;
import java.util.ArrayList;
import java.util.Arrays;
import java.util.List;

/** Every call that takes numbers, with numbers far out and at all edges, in some states, against Plain. */
public final class EdgeTest {
    private static final Check CHECK = new Check();
    private static final int[] INTS = {Integer.MIN_VALUE, Integer.MIN_VALUE + 1, -32769, -8, -7, -2, -1, 0, 1, 2, 3, 4, 5,
        6, 7, 31, 32, 40, 100, 101, 9999, 10000, Integer.MAX_VALUE - 1, Integer.MAX_VALUE};
    private static final long[] LONGS = {Long.MIN_VALUE, -1, 0, 1, 99, 1L << 31, 1L << 32, Long.MAX_VALUE};
    private static final String[] HOUSES = {
        "house 3 2 2; row 7 5; row 3 2; word 2 2; word 0 -2; word -2 0; worth square / 3 when all;",
        "house 2 1 6; row 1; row 0; row -1; row 99; row 2; row 3; word 1;",
        "house 4 3 1;",
    };

    private static List<Object[]> arguments(Class<?>[] types) {
        List<Object[]> all = new ArrayList<>();
        all.add(new Object[0]);
        for (Class<?> type : types) {
            List<Object[]> longer = new ArrayList<>();
            for (Object[] head : all) {
                for (Object v : values(type)) {
                    Object[] args = Arrays.copyOf(head, head.length + 1);
                    args[head.length] = v;
                    longer.add(args);
                }
            }
            all = longer;
        }
        return all;
    }

    private static List<Object> values(Class<?> type) {
        List<Object> all = new ArrayList<>();
        if (type == boolean.class) {
            all.add(false);
            all.add(true);
        } else if (type == long.class) {
            Arrays.stream(LONGS).forEach(all::add);
        } else {
            Arrays.stream(INTS).forEach(all::add);
        }
        return all;
    }

    private static long number(Object answer) {
        return answer instanceof Boolean ? ((Boolean) answer ? 1 : 0) : ((Number) answer).longValue();
    }

    private static void compare(ManyOut x, Plain y) throws ReflectiveOperationException {
        for (Method m : ManyOut.class.getDeclaredMethods()) {
            if (!java.lang.reflect.Modifier.isPublic(m.getModifiers()) || m.getName().equals("feed")) {
                continue;
            }
            Method plain = Plain.class.getDeclaredMethod(m.getName(), m.getParameterTypes());
            for (Object[] args : arguments(m.getParameterTypes())) {
                String call = m.getName() + Arrays.toString(args);
                try {
                    CHECK.due(call, number(m.invoke(x, args)), number(plain.invoke(y, args)));
                } catch (InvocationTargetException e) {
                    CHECK.due(call + " threw " + e.getCause(), 1, 0);
                }
            }
        }
    }

    public static void main(String[] args) throws ReflectiveOperationException {
        compare(new ManyOut(), new Plain());
        for (String text : HOUSES) {
            ManyOut x = new ManyOut();
            Plain y = new Plain();
            String padded = text + " ".repeat((20 - text.length() % 20) % 20);
            for (int k = 0; k < padded.length(); k += 20) {
                int[] five = new int[5];
                for (int i = 0; i < 20; i++) {
                    five[i / 4] = five[i / 4] << 8 | padded.charAt(k + i);
                }
                CHECK.due("feed", x.feed(five[0], five[1], five[2], five[3], five[4]), y.feed(five));
            }
            CHECK.due("house of " + text, x.house(), y.house());
            compare(x, y);
        }
        CHECK.end();
    }
}
