import java.io.IOException;
import java.lang.reflect.Method;
import java.lang.reflect.Modifier;
import java.nio.file.Files;
import java.nio.file.Path;
import java.util.regex.Matcher;
import java.util.regex.Pattern;

/** README.md's example: each call answers the number that stands behind it. */
final class ReadmeTests {
    private static final Pattern CALL = Pattern.compile("(?m)^ground\\.(\\w+)\\((.*)\\); +// (-?\\d+):");
    private static final int CALLS_IN_THE_EXAMPLE = 12;

    private ReadmeTests() {
    }

    private static Object value(String word) {
        return word.equals("true") || word.equals("false") ? (Object) Boolean.valueOf(word) : Integer.valueOf(word);
    }

    private static int answer(SeenByOne x, String name, String arguments) throws ReflectiveOperationException {
        String[] words = arguments.isEmpty() ? new String[0] : arguments.split(", ");
        Object[] values = new Object[words.length];
        for (int i = 0; i < words.length; i++) {
            values[i] = value(words[i]);
        }
        for (Method method : SeenByOne.class.getMethods()) {
            if (method.getName().equals(name) && method.getParameterCount() == words.length) {
                return (Integer) method.invoke(x, values);
            }
        }
        throw new NoSuchMethodException(name);
    }

    static void ruleExampleAnswersAsItSays() throws IOException, ReflectiveOperationException {
        SeenByOne x = new SeenByOne();
        Matcher call = CALL.matcher(Files.readString(Path.of("README.md")));
        int calls = 0;
        while (call.find()) {
            calls++;
            Due.is(call.group(1) + "(" + call.group(2) + ")", answer(x, call.group(1), call.group(2)), Integer.parseInt(call.group(3)));
        }
        Due.is("calls in the example", calls, CALLS_IN_THE_EXAMPLE);
    }

    /** Each method of the face is named in the table of what to call. */
    static void ruleEachCallIsNamed() throws IOException {
        String readme = Files.readString(Path.of("README.md"));
        for (Method method : SeenByOne.class.getDeclaredMethods()) {
            if (Modifier.isPublic(method.getModifiers())) {
                Due.is("README.md names " + method.getName(), readme.contains("`" + method.getName() + "`") ? 1 : 0, 1);
            }
        }
    }
}
