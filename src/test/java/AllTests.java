import java.lang.reflect.InvocationTargetException;
import java.lang.reflect.Method;
import java.util.Arrays;
import java.util.Comparator;
import java.util.TreeSet;

/** Runs every static method of the test classes whose name tells of a promise, of the Terms or of a rule. */
public final class AllTests {
    private static final Class<?>[] CLASSES = {
        ShelfTests.class, GroundTests.class, SightTests.class, ShutterTests.class, ChangeTests.class,
        WhoTests.class, TruthTests.class, ActTests.class, ImageTests.class, GroundTermsTests.class, TextTests.class,
        SightTermsTests.class, ComesTermsTests.class, MadeTests.class, TruthTermsTests.class, RefusalTests.class,
        FaceTests.class, ReadmeTests.class, RandomRuns.class, WildRuns.class,
    };
    private static final int PROMISES = 43;

    private AllTests() {
    }

    public static void main(String[] args) throws ReflectiveOperationException {
        int passed = 0;
        int failed = 0;
        TreeSet<Integer> promises = new TreeSet<>();
        for (Class<?> tests : CLASSES) {
            Method[] methods = tests.getDeclaredMethods();
            Arrays.sort(methods, Comparator.comparing(Method::getName));
            for (Method method : methods) {
                String name = method.getName();
                if (name.startsWith("promise") || name.startsWith("terms") || name.startsWith("rule")) {
                    if (name.startsWith("promise")) {
                        promises.add(Integer.parseInt(name.substring(7, 9)));
                    }
                    if (passes(method, tests.getSimpleName() + "." + name)) {
                        passed++;
                    } else {
                        failed++;
                    }
                }
            }
        }
        for (int promise = 1; promise <= PROMISES; promise++) {
            if (!promises.contains(promise)) {
                System.out.println("no test for promise " + promise);
                failed++;
            }
        }
        System.out.println(Due.checked + " answers looked at");
        System.out.println(passed + " passed, " + failed + " failed");
        System.exit(failed == 0 ? 0 : 1);
    }

    private static boolean passes(Method method, String name) throws ReflectiveOperationException {
        Due.test = name;
        int wrongBefore = Due.wrong;
        try {
            method.setAccessible(true);
            method.invoke(null);
        } catch (InvocationTargetException thrown) {
            System.out.println(name + " threw");
            thrown.getCause().printStackTrace(System.out);
            return false;
        }
        return Due.wrong == wrongBefore;
    }
}
