import java.util.List;
import java.util.NoSuchElementException;

/** The edges of terms: missing expressions, no term, and all 60. */
public final class Promise11BoundaryTest {
    private static final Class<NoSuchElementException> ELEMENT = NoSuchElementException.class;

    public static void main(String[] args) {
        Cases.run(Promise11BoundaryTest.class);
    }

    // "no such expression"

    static void promise11ExpressionMinus1IsRefused() {
        Cases.refused(State.ALL, ELEMENT, "terms", -1);
    }

    static void promise11Expression0IsAllowed() {
        Cases.due(State.UNSOLVED, 1, "terms", 0);
    }

    static void promise11LastExpressionMadeIsAllowed() {
        Cases.due(State.UNSOLVED, 1, "terms", 10);
    }

    static void promise11ExpressionNotMadeYetIsRefused() {
        for (State state : State.ALL) {
            Cases.refused(state, ELEMENT, "terms", state.count(0));
        }
    }

    static void promise11Expression59IsAllowed() {
        Cases.due(State.FULL_OF_EXPRESSIONS, 1, "terms", 59);
    }

    static void promise11Expression60IsRefused() {
        Cases.refused(State.FULL, ELEMENT, "terms", 60);
        Cases.refused(State.FULL_OF_EXPRESSIONS, ELEMENT, "terms", 60);
    }

    static void promise11ExpressionFarOffIsRefused() {
        for (int far : Cases.FAR_OFF) {
            Cases.refused(List.of(State.SOLVED, State.FULL_AND_SOLVED), ELEMENT, "terms", far);
        }
    }

    static void promise11EmptyObjectHasNoTerms() {
        Cases.refused(State.EMPTY, ELEMENT, "terms", 0);
    }

    static void promise11RefusedExpressionHasNoTerms() {
        State state = State.left(1, 0, 0).and("refused", x -> x.answer("expression", Checks.INPUT, 0, 0, 0));
        Cases.refused(state, ELEMENT, "terms", 59);
    }

    // "How many coefficients of an expression's sum are not 0."

    private static void termsOfNumber(int number, int want) {
        Subject x = new Subject();
        x.number(number);
        Checks.due("terms of the number " + number, x.terms(0), want);
    }

    static void promise11Number0HasNone() {
        termsOfNumber(0, 0);
        termsOfNumber(97, 0);
        termsOfNumber(-97, 0);
    }

    static void promise11OtherNumbersHaveOne() {
        termsOfNumber(1, 1);
        termsOfNumber(96, 1);
        termsOfNumber(-1, 1);
        termsOfNumber(Integer.MIN_VALUE, 1);
        termsOfNumber(Integer.MAX_VALUE, 1);
    }

    static void promise11InputLessItselfHasNone() {
        Subject x = new Subject();
        x.input(3);
        x.minus(0, 0);
        Checks.due("terms", x.terms(1), 0);
    }

    static void promise11TermThatWrapsTo0DoesNotCount() {
        Subject x = new Subject();
        x.input(3);
        x.not(0);
        x.number(96);
        x.times(1, 2);
        x.plus(1, 3);
        x.plus(0, 1);
        Checks.due("terms of 1 - x", x.terms(1), 2);
        Checks.due("terms of 96 (1 - x)", x.terms(3), 2);
        Checks.due("terms of 97 (1 - x)", x.terms(4), 0);
        Checks.due("terms of x + 1 - x", x.terms(5), 1);
    }

    static void promise11All60Variables() {
        Cases.due(State.FULL, 60, "terms", 59);
        Cases.due(State.FULL, 59, "terms", 58);
    }

    static void promise11All59VariablesWithoutTheOne() {
        Subject x = new Subject();
        x.input(3);
        x.number(5);
        x.either(1, 0, 0);
        for (int last = 2; last < 59; last++) {
            x.either(1, last, 0);
        }
        Checks.due("variables", x.count(1), 60);
        Checks.due("terms of the last", x.terms(59), 59);
    }

    /** The terms are those of the sum alone: neither a number of the witness nor what was given counts. */
    static void promise11WitnessIsOfNoAccount() {
        Subject x = new Subject();
        x.input(0);
        x.plus(0, 0);
        x.solve();
        x.tamper(1, 0);
        Checks.due("terms", x.terms(1), 1);
    }

    // "at most 512 calls"

    static void promise11Call512IsAnswered() {
        Cases.dueAsLastCall(State.FULL, 60, "terms", 59);
        Cases.dueAsLastCall(State.FULL, ELEMENT, "terms", 60);
        Cases.dueAsLastCall(State.EMPTY, ELEMENT, "terms", 0);
    }

    static void promise11All512CallsMayBeRefused() {
        Cases.refused512Times(ELEMENT, "terms", 0);
    }
}
