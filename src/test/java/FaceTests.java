import java.io.IOException;
import java.lang.reflect.Constructor;
import java.lang.reflect.Field;
import java.lang.reflect.Member;
import java.lang.reflect.Method;
import java.lang.reflect.Modifier;
import java.nio.file.Files;
import java.nio.file.Path;
import java.util.Arrays;
import java.util.List;
import java.util.TreeSet;
import java.util.regex.Matcher;
import java.util.regex.Pattern;

/** The document's face: rule 1 of LANGUAGE.md; and words that its other rules leave out. */
final class FaceTests {
    private static final List<String> FACE = List.of(
        "int row(int int int)", "int set(int int long)", "int copy(int int int int int)", "long element(int int)",
        "int show(int int)", "int holds(int)", "int says(int int)", "int thing(int int int int int)",
        "int thingOf(int int)", "int height(int int)", "int ask(int int)", "int shut(int int boolean)",
        "int draw(int boolean)", "int ground(int)", "int fault()", "int sees(int int int)", "int bars(int int)",
        "int seers(int)", "int right()", "int first()", "int cost(int int)", "int cheapest(int)", "int keeps(int)",
        "int curtains(int)", "int newly(int)", "int storey(int)", "int blinded(int)", "int felled(int)", "int pairs()",
        "int back(int)", "int most()", "int list(int int)", "int night(int)", "int shuts()", "int opens()",
        "int years(int)", "int seed(int)", "int act(int int int)", "int trace(int)", "int image()", "int restore()",
        "int status(int)");

    private FaceTests() {
    }

    private static boolean isPublic(Member member) {
        return Modifier.isPublic(member.getModifiers());
    }

    private static boolean isPrivate(Member member) {
        return Modifier.isPrivate(member.getModifiers());
    }

    private static String faceOf(Method method) {
        StringBuilder face = new StringBuilder(method.getReturnType() + " " + method.getName() + "(");
        for (Class<?> type : method.getParameterTypes()) {
            face.append(face.charAt(face.length() - 1) == '(' ? "" : " ").append(type);
        }
        return face.append(")").toString();
    }

    private static void same(String what, Object got, Object want) {
        Due.is(what + ": " + got + ", due: " + want, got.equals(want) ? 1 : 0, 1);
    }

    static void rule01Methods() {
        TreeSet<String> publics = new TreeSet<>();
        TreeSet<String> names = new TreeSet<>();
        for (Method method : SeenByOne.class.getDeclaredMethods()) {
            if (isPublic(method)) {
                publics.add(faceOf(method));
                names.add(method.getName());
            }
        }
        same("public methods", publics, new TreeSet<>(FACE));
        for (Method method : SeenByOne.class.getDeclaredMethods()) {
            if (!isPublic(method)) {
                same(method.getName() + " is private", isPrivate(method), true);
                same(method.getName() + " bears no public name", names.contains(method.getName()), false);
            }
        }
    }

    /** A look for words alone; it doesn't stand for reading LANGUAGE.md. */
    static void rule06WordsThatMayNotBe() throws IOException {
        String source = Files.readString(Path.of("src/main/java/SeenByOne.java"));
        Matcher word = Pattern.compile("\\b(throw|throws|try|catch|synchronized|assert|import|package|equals|hashCode|"
            + "toString|float|double|yield)\\b|->|::|[^\\n -~]").matcher(source);
        same("words that may not be", word.find() ? word.group() : "none", "none");
    }

    static void rule01TheRest() throws ReflectiveOperationException {
        same("final", Modifier.isFinal(SeenByOne.class.getModifiers()), true);
        same("public", Modifier.isPublic(SeenByOne.class.getModifiers()), true);
        same("NONE", SeenByOne.class.getField("NONE").getInt(null), -1);
        for (Field field : SeenByOne.class.getDeclaredFields()) {
            same(field.getName() + " is private", isPrivate(field) || field.getName().equals("NONE"), true);
        }
        Constructor<?>[] constructors = SeenByOne.class.getDeclaredConstructors();
        same("constructors", Arrays.toString(constructors), "[public SeenByOne()]");
        for (Class<?> inside : SeenByOne.class.getDeclaredClasses()) {
            same(inside.getName() + " is static", Modifier.isStatic(inside.getModifiers()), true);
        }
    }
}
