import java.io.IOException;
import java.lang.reflect.Method;
import java.lang.reflect.Modifier;
import java.nio.file.Files;
import java.nio.file.Path;
import java.util.ArrayList;
import java.util.Arrays;
import java.util.HashMap;
import java.util.List;
import java.util.Map;
import java.util.Set;
import java.util.TreeMap;
import java.util.TreeSet;
import java.util.regex.Matcher;
import java.util.regex.Pattern;

/** Every call that README.md shows is run, and must answer what stands beside it. */
public final class ReadmeTest {
    private static final Path README = Path.of("README.md");
    private static final String FENCE = "```";
    private static final String START_OF_EXAMPLE = FENCE + "java";
    private static final String NEW_OBJECT = "ConstraintCompiler x = new ConstraintCompiler();";
    private static final Pattern SHOWN_OUTSIDE = Pattern.compile("\\bx\\.\\w");
    private static final String NAME = "[a-z]\\w*";
    private static final String ARGUMENT = "(?:-?\\d+|" + NAME + ")";
    private static final Pattern CALL = Pattern.compile(
            "(?:int (?<name>" + NAME + ") = )?"
                    + "x\\.(?<method>" + NAME + ")"
                    + "\\((?<arguments>(?:" + ARGUMENT + "(?:, " + ARGUMENT + ")*)?)\\);"
                    + " +// (?:(?<answer>-?\\d+)|throws (?<thrown>\\w+))(?:: .+)?");

    private final Map<String, Integer> names = new HashMap<>();
    private final Set<String> shown;
    private Subject x;

    private ReadmeTest(Set<String> shown) {
        this.shown = shown;
    }

    public static void main(String[] args) throws IOException {
        Set<String> shown = new TreeSet<>();
        List<List<String>> examples = examples(Files.readAllLines(README));
        for (List<String> example : examples) {
            new ReadmeTest(shown).run(example);
        }
        Checks.due("methods that README.md shows", shown, methodsOfFace().keySet());
        Checks.end();
    }

    /** Also sees to it that no call is shown where this test would not look for it. */
    private static List<List<String>> examples(List<String> lines) {
        List<List<String>> examples = new ArrayList<>();
        boolean inside = false;
        for (String line : lines) {
            if (line.startsWith(FENCE)) {
                inside = !inside;
                Checks.due("the fence '" + line + "'", line, inside ? START_OF_EXAMPLE : FENCE);
                if (inside) {
                    examples.add(new ArrayList<>());
                }
            } else if (inside) {
                examples.get(examples.size() - 1).add(line);
            } else {
                boolean showsACall = SHOWN_OUTSIDE.matcher(line).find();
                Checks.due("'" + line + "' shows a call outside of an example", showsACall, false);
            }
        }
        Checks.due("the last example is still open", inside, false);
        return examples;
    }

    private static Map<String, Integer> methodsOfFace() {
        Map<String, Integer> parameters = new TreeMap<>();
        for (Method method : ConstraintCompiler.class.getDeclaredMethods()) {
            if (Modifier.isPublic(method.getModifiers())) {
                parameters.put(method.getName(), method.getParameterCount());
            }
        }
        return parameters;
    }

    private void run(List<String> example) {
        Checks.due("the start of an example", example.isEmpty() ? "" : example.get(0), NEW_OBJECT);
        x = new Subject();
        for (String line : example.subList(Math.min(1, example.size()), example.size())) {
            Matcher call = CALL.matcher(line);
            boolean canBeRead = call.matches();
            Checks.due("'" + line + "' is a call with its answer", canBeRead, true);
            if (canBeRead) {
                runCall(line, call);
            }
        }
    }

    private void runCall(String line, Matcher call) {
        String method = call.group("method");
        int[] arguments = arguments(line, call.group("arguments"));
        Integer parameters = methodsOfFace().get(method);
        Checks.due("parameters of '" + line + "'", arguments.length, parameters == null ? -1 : parameters);
        if (parameters == null || parameters != arguments.length) {
            return;
        }
        shown.add(method);
        Object got = x.answer(method, arguments);
        Checks.due("'" + line + "'", got instanceof Class<?> thrown ? thrown.getSimpleName() : got.toString(),
                call.group("answer") == null ? call.group("thrown") : call.group("answer"));
        if (call.group("name") != null && got instanceof Integer answer) {
            Checks.due("'" + line + "' uses a name twice", names.put(call.group("name"), answer) != null, false);
        }
    }

    private int[] arguments(String line, String text) {
        String[] parts = text.isEmpty() ? new String[0] : text.split(", ");
        return Arrays.stream(parts).mapToInt(part -> argument(line, part)).toArray();
    }

    private int argument(String line, String part) {
        if (!Character.isLetter(part.charAt(0))) {
            return Integer.parseInt(part);
        }
        Checks.due("'" + line + "' names " + part, names.containsKey(part), true);
        return names.getOrDefault(part, -1);
    }
}
