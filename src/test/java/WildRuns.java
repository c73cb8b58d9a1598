import java.lang.reflect.Method;
import java.lang.reflect.Modifier;
import java.util.Arrays;
import java.util.Comparator;

/** Rule 7 of LANGUAGE.md: no call throws, whatever it is given, in whatever state. */
final class WildRuns {
    private static final int RUNS = 200;
    /** Of 512 that are promised: status() is asked behind them. */
    private static final int CALLS = 511;
    private static final int[] WILD = {
        0, 1, 2, 3, 4, 5, 6, 7, 8, 9, 20, 21, 30, 100, 159, 160, 161, 255, 256, -1, -2, -160,
        Integer.MAX_VALUE, Integer.MAX_VALUE - 1, Integer.MIN_VALUE, Integer.MIN_VALUE + 1,
    };

    private long drawn = 2463534242L;

    private WildRuns() {
    }

    private int below(int n) {
        drawn ^= drawn << 13;
        drawn ^= drawn >>> 7;
        drawn ^= drawn << 17;
        return (int) Long.remainderUnsigned(drawn, n);
    }

    /** Small ones often, so that a run comes far. */
    private int wild() {
        return below(3) == 0 ? WILD[below(WILD.length)] : below(8);
    }

    private Object[] arguments(Method method) {
        Object[] arguments = new Object[method.getParameterCount()];
        for (int i = 0; i < arguments.length; i++) {
            Class<?> type = method.getParameterTypes()[i];
            arguments[i] = type == boolean.class ? (Object) (below(2) == 0) : type == long.class ? (Object) (long) sign() : wild();
        }
        return arguments;
    }

    private int sign() {
        return below(4) == 0 ? wild() : "far 1;sumethingdrw0294 ".charAt(below(23));
    }

    static void rule07NoCallThrows() throws ReflectiveOperationException {
        Method[] methods = Arrays.stream(SeenByOne.class.getDeclaredMethods())
            .filter(method -> Modifier.isPublic(method.getModifiers()))
            .sorted(Comparator.comparing(Method::getName)).toArray(Method[]::new);
        WildRuns wild = new WildRuns();
        for (int run = 0; run < RUNS; run++) {
            SeenByOne x = new SeenByOne();
            for (int call = 0; call < CALLS; call++) {
                Method method = methods[wild.below(methods.length)];
                method.invoke(x, wild.arguments(method));
            }
            Due.is("refused ones", x.status(11) > 0 ? 1 : 0, 1);
        }
    }
}
