import java.lang.reflect.InvocationTargetException;
import java.lang.reflect.Method;
import java.lang.reflect.Modifier;
import java.util.Arrays;
import java.util.Comparator;
import java.util.List;
import java.util.Locale;

/**
 * Runs the cases of a class each apart. A case is a static method without parameters, named after
 * its promise, so that none can be written and then be left out.
 */
final class Cases {
    /** Outside of every range of the document, by far; -97 would be 0 if its remainder were taken. */
    static final int[] FAR_OFF = {
        Integer.MIN_VALUE, Integer.MIN_VALUE + 1, -97, 97, Integer.MAX_VALUE - 1, Integer.MAX_VALUE
    };

    private Cases() {
    }

    static void run(Class<?> tests) {
        String prefix = tests.getSimpleName().substring(0, "Promise00".length()).toLowerCase(Locale.ROOT);
        Method[] methods = tests.getDeclaredMethods();
        Arrays.sort(methods, Comparator.comparing(Method::getName));
        for (Method method : methods) {
            if (isCase(method)) {
                Checks.due("the promise in the name of " + method.getName(),
                        method.getName().startsWith(prefix), true);
                runOne(method);
            }
        }
        Checks.end();
    }

    private static boolean isCase(Method method) {
        return method.getParameterCount() == 0
                && Modifier.isStatic(method.getModifiers())
                && !Modifier.isPrivate(method.getModifiers())
                && !method.isSynthetic();
    }

    private static void runOne(Method method) {
        int checked = Checks.checked();
        int wrong = Checks.wrong();
        try {
            method.invoke(null);
        } catch (InvocationTargetException e) {
            Checks.due(method.getName() + " ends with", e.getCause(), "nothing thrown");
        } catch (IllegalAccessException e) {
            Checks.due(method.getName() + " can be called", e, "nothing thrown");
        }
        Checks.due(method.getName() + " checks something", Checks.checked() > checked, true);
        System.out.println((Checks.wrong() == wrong ? "  holds: " : "  BROKEN: ") + method.getName());
    }

    static void due(State state, int want, String method, int... arguments) {
        Checks.due(text(state, method, arguments), state.make().answer(method, arguments), want);
    }

    /** The call throws just that, and behind it no answer of any method has changed. */
    static void refused(State state, Class<? extends RuntimeException> want, String method, int... arguments) {
        String text = text(state, method, arguments);
        Checks.due(text, state.make().answer(method, arguments), want);
        State behind = state.and("refused", x -> x.answer(method, arguments));
        Checks.due(text + " changed something", state.answers().partsFrom(Answers.of(behind)), "nowhere");
    }

    static void refused(
            List<State> states, Class<? extends RuntimeException> want, String method, int... arguments) {
        for (State state : states) {
            refused(state, want, method, arguments);
        }
    }

    /** Uses an object up but for one call, by calls that change nothing. */
    static Subject worn(State state) {
        Subject x = state.make();
        while (x.callsLeft() > 1) {
            x.count(x.callsLeft() % 6);
        }
        return x;
    }

    static void dueAsLastCall(State state, Object want, String method, int... arguments) {
        Subject x = worn(state);
        Checks.due("the 512th call, " + text(state, method, arguments), x.answer(method, arguments), want);
    }

    /** Each call of the 512 that an object has is this one, and all are refused alike. */
    static void refused512Times(Class<? extends RuntimeException> want, String method, int... arguments) {
        Subject x = new Subject();
        while (x.callsLeft() > 0) {
            String text = text(State.EMPTY, method, arguments) + " with " + x.callsLeft() + " calls left";
            Checks.due(text, x.answer(method, arguments), want);
        }
    }

    private static String text(State state, String method, int[] arguments) {
        return method + Arrays.toString(arguments) + " on " + state;
    }
}
