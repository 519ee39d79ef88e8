import java.util.List;
import java.util.function.Consumer;

/** A recipe of calls, by which any number of objects can be brought to one and the same state. */
final class State {
    static final State EMPTY = new State("an empty object", x -> { });

    /** Has an expression of every kind and both kinds of claims, and no witness. */
    static final State UNSOLVED = new State("an object without a witness", State::makeEveryKind);

    /** Its witness is tampered with, and behind it something was given and made. */
    static final State SOLVED = UNSOLVED.and("solved", x -> {
        x.solve();
        x.tamper(3, 50);
        x.give(0, 7);
        x.bit(x.times(x.input(4), 0));
    });

    /** As SOLVED, and to solve it again is a failure. */
    static final State FAILING = SOLVED.and("given 0 to share by", x -> x.give(1, 0));

    static final State FULL_OF_EXPRESSIONS = left(0, 5, 5).and("solved", Subject::solve);
    static final State FULL_OF_VARIABLES = left(5, 0, 5).and("solved", Subject::solve);
    static final State FULL_OF_CONSTRAINTS = left(5, 5, 0).and("solved", Subject::solve);

    /** Has 60 expressions, 60 variables, 80 constraints, and all 60 variables in the last sum. */
    static final State FULL = new State("a full object", State::fill);
    static final State FULL_AND_SOLVED = FULL.and("solved", x -> {
        x.solve();
        x.tamper(59, 50);
        x.give(0, 7);
    });

    static final List<State> ALL = List.of(EMPTY, UNSOLVED, SOLVED, FAILING,
            FULL_OF_EXPRESSIONS, FULL_OF_VARIABLES, FULL_OF_CONSTRAINTS, FULL, FULL_AND_SOLVED);
    static final List<State> WITH_EXPRESSIONS = ALL.subList(1, ALL.size());
    static final List<State> WITHOUT_A_WITNESS = List.of(EMPTY, UNSOLVED, FULL);
    static final List<State> WITH_A_WITNESS = List.of(SOLVED, FAILING,
            FULL_OF_EXPRESSIONS, FULL_OF_VARIABLES, FULL_OF_CONSTRAINTS, FULL_AND_SOLVED);

    private final String name;
    private final Consumer<Subject> recipe;
    private Answers answers;

    State(String name, Consumer<Subject> recipe) {
        this.name = name;
        this.recipe = recipe;
    }

    State and(String more, Consumer<Subject> rest) {
        return new State(name + ", " + more, recipe.andThen(rest));
    }

    Subject make() {
        Subject x = new Subject();
        recipe.accept(x);
        return x;
    }

    int count(int what) {
        return make().count(what);
    }

    Answers answers() {
        if (answers == null) {
            answers = Answers.of(this);
        }
        return answers;
    }

    @Override
    public String toString() {
        return name;
    }

    /** Room is left for so many and no more; expressions 0 and 1 are inputs, 2 is the number 5. */
    static State left(int expressions, int variables, int constraints) {
        String name = "an object with room for " + expressions + " expressions, " + variables + " variables and "
                + constraints + " constraints";
        return new State(name, x -> {
            x.input(3);
            x.input(4);
            x.number(5);
            int more = 57 - variables;
            int freeConstraints = 80 - more;
            while (more > 0) {
                int exponent = Math.min(5, more + 1);
                x.power(0, exponent);
                more -= exponent - 1;
            }
            for (int free = freeConstraints; free > constraints; free--) {
                x.bit(0);
            }
            for (int free = 60 - x.count(0); free > expressions; free--) {
                x.number(free);
            }
        });
    }

    private static void makeEveryKind(Subject x) {
        x.input(90);
        x.input(20);
        x.number(5);
        x.plus(0, 1);
        x.minus(0, 1);
        x.times(0, 1);
        x.share(0, 1);
        x.same(0, 1);
        x.either(0, 1, 7);
        x.not(7);
        x.power(0, 3);
        x.equal(5, 3);
        x.bit(7);
    }

    /** Each EITHER brings one more variable to the sum of the one before: q + b. */
    private static void fill(Subject x) {
        x.input(2);
        x.not(0);
        for (int last = 1; last < 59; last++) {
            x.either(0, last, 0);
        }
        for (int claims = 0; claims < 22; claims++) {
            x.bit(0);
        }
    }
}
