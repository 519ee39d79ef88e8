import java.io.IOException;
import java.lang.reflect.AccessibleObject;
import java.lang.reflect.Constructor;
import java.lang.reflect.Field;
import java.lang.reflect.Member;
import java.lang.reflect.Method;
import java.lang.reflect.Modifier;
import java.nio.file.Files;
import java.nio.file.Path;
import java.util.Arrays;
import java.util.List;
import java.util.Set;
import java.util.TreeSet;
import java.util.stream.Collectors;

/** The document's face, and those rules of LANGUAGE.md that a program can look after. */
public final class LanguageTest {
    private static final Path SOURCE = Path.of("src/main/java/ConstraintCompiler.java");
    private static final Set<String> FACE = new TreeSet<>(List.of(
            "expression(int, int, int, int) throws IllegalArgumentException, IllegalStateException",
            "claim(int, int, int) throws IllegalArgumentException, IllegalStateException",
            "give(int, int) throws NoSuchElementException, UnsupportedOperationException",
            "solve() throws ArithmeticException",
            "value(int) throws NoSuchElementException, IllegalStateException",
            "tamper(int, int) throws IllegalStateException, IllegalArgumentException",
            "broken() throws IllegalStateException",
            "first() throws IllegalStateException, NoSuchElementException",
            "coefficient(int, int, int) throws NoSuchElementException, IllegalArgumentException",
            "terms(int) throws NoSuchElementException",
            "uses(int) throws IllegalArgumentException",
            "count(int) throws IllegalArgumentException"));
    private static final List<String> LEFT_OUT = List.of(
            "->", "::", "finally", "synchronized", "assert", "Exact(", "hashCode", "toString(", "equals(",
            "System.out", "System.err", "currentTimeMillis", "nanoTime", "getMessage", "static {", "package ",
            "while (true)", "for (;;)", "double", "float");
    private static final Set<String> IMPORTS = Set.of(
            "import java.util.ArrayList;", "import java.util.Arrays;", "import java.util.Iterator;",
            "import java.util.List;", "import java.util.NoSuchElementException;");
    private static final Set<Class<?>> STATIC_TYPES = Set.of(
            int.class, long.class, boolean.class, char.class, String.class,
            int[].class, long[].class, char[].class, byte[].class);

    public static void main(String[] args) throws IOException {
        face();
        classesInside();
        source();
        Checks.end();
    }

    private static void face() {
        Class<?> type = ConstraintCompiler.class;
        Checks.due("modifiers", Modifier.toString(type.getModifiers()), "public final");
        Checks.due("what it extends", type.getSuperclass(), Object.class);
        Checks.due("interfaces", type.getInterfaces().length, 0);
        Checks.due("package", type.getPackageName(), "");
        Set<String> found = new TreeSet<>();
        for (Method method : type.getDeclaredMethods()) {
            if (!isHidden(method)) {
                found.add(signature(method));
                Checks.due(method + " is public and of an object",
                        Modifier.toString(method.getModifiers()), "public");
                Checks.due(method + " answers", method.getReturnType(), int.class);
            }
        }
        Checks.due("methods", found, FACE);
        Checks.due("fields that can be seen", visible(type.getDeclaredFields()), 0L);
        Constructor<?>[] constructors = type.getDeclaredConstructors();
        Checks.due("constructors", constructors.length, 1);
        Checks.due("constructor", constructors[0].toString(), "public ConstraintCompiler()");
    }

    private static String signature(Method method) {
        String parameters = names(method.getParameterTypes());
        return method.getName() + "(" + parameters + ") throws " + names(method.getExceptionTypes());
    }

    private static String names(Class<?>[] types) {
        return Arrays.stream(types).map(Class::getSimpleName).collect(Collectors.joining(", "));
    }

    private static <M extends AccessibleObject & Member> long visible(M[] members) {
        return Arrays.stream(members).filter(m -> !isHidden(m)).count();
    }

    private static boolean isHidden(Member member) {
        return Modifier.isPrivate(member.getModifiers()) || member.isSynthetic();
    }

    private static void classesInside() {
        Class<?>[] inside = ConstraintCompiler.class.getDeclaredClasses();
        Checks.due("few classes", inside.length < 12, true);
        membersOf(ConstraintCompiler.class);
        for (Class<?> type : inside) {
            Checks.due(type + " is static", Modifier.isStatic(type.getModifiers()), true);
            Checks.due(type + " is not public", Modifier.isPublic(type.getModifiers()), false);
            Checks.due(type + " is not protected", Modifier.isProtected(type.getModifiers()), false);
            membersOf(type);
        }
    }

    private static void membersOf(Class<?> type) {
        Set<String> publicNames = FACE.stream().map(s -> s.substring(0, s.indexOf('('))).collect(Collectors.toSet());
        for (Method method : type.getDeclaredMethods()) {
            Checks.due(method + " takes few parameters", method.getParameterCount() <= 7, true);
            boolean isOfFace = Modifier.isPublic(method.getModifiers()) && type == ConstraintCompiler.class;
            Checks.due(method + " bears a name of the face", publicNames.contains(method.getName()), isOfFace);
        }
        for (Field field : type.getDeclaredFields()) {
            if (Modifier.isStatic(field.getModifiers())) {
                Checks.due(field + " is final", Modifier.isFinal(field.getModifiers()), true);
                Checks.due(field + " is a constant", STATIC_TYPES.contains(field.getType()), true);
            }
        }
    }

    private static void source() throws IOException {
        for (String line : Files.readAllLines(SOURCE)) {
            // What a comment says is free, but for its characters.
            String text = line.strip().startsWith("*") || line.strip().startsWith("/*") ? "" : line;
            for (String word : LEFT_OUT) {
                Checks.due("'" + line + "' has " + word, text.contains(word), false);
            }
            if (text.startsWith("import")) {
                Checks.due("'" + line + "' is allowed", IMPORTS.contains(line), true);
            }
            Checks.due("'" + line + "' is of plain characters", line.chars().allMatch(c -> c < 128), true);
        }
    }
}
