import java.util.ArrayList;
import java.util.Arrays;
import java.util.List;

/**
 * Every answer of every method that an object in a state has. As many objects are brought to that
 * state as it takes to ask for them all within 512 calls of each.
 */
final class Answers {
    private record Asked(String method, int[] arguments, Object answer) {
    }

    private final State state;
    private final List<Asked> asked = new ArrayList<>();
    private Subject x;

    private Answers(State state) {
        this.state = state;
    }

    static Answers of(State state) {
        Answers answers = new Answers(state);
        answers.askWhatChangesNothing();
        answers.askForCoefficients();
        answers.askForWhatWasGiven();
        answers.askForTheWitness();
        answers.askForSolving();
        answers.askForWhatCanBeMade();
        return answers;
    }

    /** Where the two part for the first time, or "nowhere". */
    String partsFrom(Answers other) {
        for (int i = 0; i < Math.min(asked.size(), other.asked.size()); i++) {
            Asked mine = asked.get(i);
            Object others = other.asked.get(i).answer();
            if (!mine.answer().equals(others)) {
                return mine.method() + Arrays.toString(mine.arguments()) + " answers " + others
                        + " instead of " + mine.answer();
            }
        }
        return asked.size() == other.asked.size() ? "nowhere" : "in how much there is to ask";
    }

    private void another() {
        x = state.make();
    }

    private void ask(String method, int... arguments) {
        asked.add(new Asked(method, arguments, x.answer(method, arguments)));
    }

    /** For calls that change nothing, so that another object in the same state may go on with them. */
    private void look(String method, int... arguments) {
        if (x.callsLeft() == 0) {
            another();
        }
        ask(method, arguments);
    }

    private void askWhatChangesNothing() {
        another();
        for (int what = -1; what <= 6; what++) {
            look("count", what);
        }
        look("broken");
        look("first");
        for (int i = -1; i <= 60; i++) {
            look("value", i);
            look("terms", i);
            look("uses", i);
        }
    }

    private void askForCoefficients() {
        another();
        int constraints = x.count(2);
        look("coefficient", -1, 0, 0);
        look("coefficient", constraints, 0, 0);
        for (int constraint = 0; constraint < constraints; constraint++) {
            for (int sum = 0; sum <= 2; sum++) {
                for (int variable = 0; variable <= 59; variable++) {
                    look("coefficient", constraint, sum, variable);
                }
            }
        }
    }

    private void askForWhatWasGiven() {
        another();
        for (int expression = 0; expression <= 60; expression++) {
            ask("give", expression, 3 * expression);
        }
        for (int expression = 0; expression <= 60; expression++) {
            ask("give", expression, 0);
        }
    }

    private void askForTheWitness() {
        another();
        for (int variable = 0; variable <= 60; variable++) {
            ask("tamper", variable, 3 * variable);
        }
        ask("broken");
        ask("first");
    }

    private void askForSolving() {
        another();
        ask("solve");
        ask("count", 5);
        ask("first");
        for (int variable = 0; variable <= 60; variable++) {
            ask("tamper", variable, 0);
        }
    }

    private void askForWhatCanBeMade() {
        for (int kind = 0; kind <= 9; kind++) {
            another();
            ask("expression", kind, 0, 1, 0);
            ask("count", 0);
            ask("count", 1);
            ask("count", 2);
            ask("count", 3);
        }
        for (int kind = 0; kind <= 1; kind++) {
            another();
            ask("claim", kind, 0, 0);
            ask("count", 2);
        }
    }
}
