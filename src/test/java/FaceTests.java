import java.io.IOException;
import java.lang.reflect.Constructor;
import java.lang.reflect.Field;
import java.lang.reflect.Member;
import java.lang.reflect.Method;
import java.lang.reflect.Modifier;
import java.nio.file.Files;
import java.nio.file.Path;
import java.util.ArrayList;
import java.util.Arrays;
import java.util.List;
import java.util.TreeSet;
import java.util.regex.Matcher;
import java.util.regex.Pattern;

/** The document's face: rule 1 of LANGUAGE.md; and of its other rules what can be looked at without reading. */
final class FaceTests {
    private static final List<String> FACE = List.of(
        "int row(int int int)", "int set(int int long)", "int copy(int int int int int)", "long element(int int)",
        "int show(int int)", "int holds(int)", "int says(int int)", "int thing(int int int int int)",
        "int thingOf(int int)", "int height(int int)", "int ask(int int)", "int shut(int int boolean)",
        "int draw(int boolean)", "int ground(int)", "int fault()", "int sees(int int int)", "int bars(int int)",
        "int seers(int)", "int right()", "int first()", "int cost(int int)", "int cheapest(int)", "int keeps(int)",
        "int curtains(int)", "int newly(int)", "int storey(int)", "int blinded(int)", "int felled(int)", "int pairs()",
        "int back(int)", "int most()", "int list(int int)", "int night(int)", "int shuts()", "int opens()",
        "int years(int)", "int seed(int)", "int act(int int int)", "int trace(int)", "int image()", "int restore()",
        "int status(int)");

    private FaceTests() {
    }

    private static boolean isPublic(Member member) {
        return Modifier.isPublic(member.getModifiers());
    }

    private static boolean isPrivate(Member member) {
        return Modifier.isPrivate(member.getModifiers());
    }

    private static String faceOf(Method method) {
        StringBuilder face = new StringBuilder(method.getReturnType() + " " + method.getName() + "(");
        for (Class<?> type : method.getParameterTypes()) {
            face.append(face.charAt(face.length() - 1) == '(' ? "" : " ").append(type);
        }
        return face.append(")").toString();
    }

    private static void same(String what, Object got, Object want) {
        Due.is(what + ": " + got + ", due: " + want, got.equals(want) ? 1 : 0, 1);
    }

    static void rule01Methods() {
        TreeSet<String> publics = new TreeSet<>();
        TreeSet<String> names = new TreeSet<>();
        for (Method method : SeenByOne.class.getDeclaredMethods()) {
            if (isPublic(method)) {
                publics.add(faceOf(method));
                names.add(method.getName());
            }
        }
        same("public methods", publics, new TreeSet<>(FACE));
        for (Method method : SeenByOne.class.getDeclaredMethods()) {
            if (!isPublic(method)) {
                same(method.getName() + " is private", isPrivate(method), true);
                same(method.getName() + " bears no public name", names.contains(method.getName()), false);
            }
        }
    }

    private static String source() throws IOException {
        return Files.readString(Path.of("src/main/java/SeenByOne.java"));
    }

    /** A look for words alone; it doesn't stand for reading LANGUAGE.md. */
    static void rule06WordsThatMayNotBe() throws IOException {
        Matcher word = Pattern.compile("\\b(throw|throws|try|catch|synchronized|assert|import|package|equals|hashCode|"
            + "toString|float|double|yield)\\b|->|::|[^\\n -~]").matcher(source());
        same("words that may not be", word.find() ? word.group() : "none", "none");
    }

    private static List<Class<?>> classes() {
        List<Class<?>> classes = new ArrayList<>(List.of(SeenByOne.class.getDeclaredClasses()));
        classes.add(SeenByOne.class);
        return classes;
    }

    private static boolean isNumbers(Class<?> type) {
        return type.isPrimitive() || type.isArray() && type.getComponentType().isPrimitive();
    }

    /** Own classes, arrays of them, numbers and arrays of numbers: the class needs no more. */
    static void rule03TypesOfFields() {
        List<Class<?>> own = classes();
        for (Class<?> of : own) {
            for (Field field : of.getDeclaredFields()) {
                Class<?> type = field.getType();
                Class<?> single = type.isArray() ? type.getComponentType() : type;
                same(of.getName() + "." + field.getName() + " may be", isNumbers(type) || own.contains(single), true);
            }
        }
    }

    static void rule04TheLibrary() throws IOException {
        TreeSet<String> used = new TreeSet<>();
        Matcher call = Pattern.compile("\\b[A-Z]\\w*\\.\\w+(?=\\()|\\bnew [A-Z]\\w*(?=\\()").matcher(source());
        while (call.find()) {
            used.add(call.group());
        }
        used.removeAll(List.of("Integer.bitCount", "Math.abs", "Math.max", "Math.min", "System.arraycopy"));
        used.removeIf(name -> classes().stream().anyMatch(own -> name.equals("new " + own.getSimpleName())));
        same("calls beyond those of LANGUAGE.md that the class needs", used, new TreeSet<String>());
    }

    static void rule05StaticFieldsAreConstants() {
        for (Class<?> of : classes()) {
            for (Field field : of.getDeclaredFields()) {
                boolean isConstant = Modifier.isFinal(field.getModifiers()) && field.getType().isPrimitive();
                same(of.getName() + "." + field.getName(), !Modifier.isStatic(field.getModifiers()) || isConstant, true);
            }
        }
    }

    /** "at most seven parameters", "at most some twelve classes", "some twenty fields beside its constants" */
    static void rule11HowMuch() {
        same("at most twelve classes", classes().size() <= 12, true);
        for (Class<?> of : classes()) {
            long fields = Arrays.stream(of.getDeclaredFields()).filter(f -> !Modifier.isStatic(f.getModifiers())).count();
            same(of.getName() + " of at most twenty fields", fields <= 20, true);
            for (Method method : of.getDeclaredMethods()) {
                same(method.getName() + " of at most seven parameters", method.getParameterCount() <= 7, true);
            }
        }
    }

    /** "Methods stay short (some sixty lines)": from a line that opens one to the brace under its first letter. */
    static void rule11ShortMethods() throws IOException {
        Matcher method = Pattern.compile("(?ms)^( {4}| {8})(?:\\w+[\\w\\[\\] ]* )?(\\w+)\\([^\\n]*\\) \\{$.*?^\\1\\}$").matcher(source());
        int methods = 0;
        while (method.find()) {
            methods++;
            same(method.group(2) + " is short", method.group().lines().count() <= 60, true);
        }
        same("methods were found", methods > 100, true);
    }

    static void rule01TheRest() throws ReflectiveOperationException {
        same("final", Modifier.isFinal(SeenByOne.class.getModifiers()), true);
        same("public", Modifier.isPublic(SeenByOne.class.getModifiers()), true);
        same("NONE", SeenByOne.class.getField("NONE").getInt(null), -1);
        for (Field field : SeenByOne.class.getDeclaredFields()) {
            same(field.getName() + " is private", isPrivate(field) || field.getName().equals("NONE"), true);
        }
        Constructor<?>[] constructors = SeenByOne.class.getDeclaredConstructors();
        same("constructors", Arrays.toString(constructors), "[public SeenByOne()]");
        for (Class<?> inside : SeenByOne.class.getDeclaredClasses()) {
            same(inside.getName() + " is static", Modifier.isStatic(inside.getModifiers()), true);
        }
    }
}
