import java.util.List;
import java.util.NoSuchElementException;

/** The edges of give. No expression is missing and of another kind, so its two exceptions never meet. */
public final class Promise04BoundaryTest {
    private static final Class<NoSuchElementException> ELEMENT = NoSuchElementException.class;
    private static final Class<UnsupportedOperationException> UNSUPPORTED = UnsupportedOperationException.class;
    private static final List<State> SOME = List.of(State.SOLVED, State.FULL_AND_SOLVED);

    public static void main(String[] args) {
        Cases.run(Promise04BoundaryTest.class);
    }

    // "no such expression"

    static void promise04ExpressionMinus1IsRefused() {
        Cases.refused(State.ALL, ELEMENT, "give", -1, 8);
    }

    static void promise04Expression0IsAllowed() {
        Cases.due(State.UNSOLVED, 90, "give", 0, 8);
    }

    static void promise04LastExpressionMadeIsAllowed() {
        State state = State.UNSOLVED.and("and one input more", x -> x.input(9));
        Cases.due(state, 9, "give", 11, 8);
    }

    static void promise04ExpressionNotMadeYetIsRefused() {
        for (State state : State.ALL) {
            Cases.refused(state, ELEMENT, "give", state.count(0), 8);
        }
    }

    static void promise04Expression59IsAllowed() {
        State state = State.left(1, 1, 0).and("and one input more", x -> x.input(9));
        Cases.due(state, 9, "give", 59, 8);
        Cases.refused(state, ELEMENT, "give", 60, 8);
    }

    static void promise04ExpressionFarOffIsRefused() {
        for (int far : Cases.FAR_OFF) {
            Cases.refused(SOME, ELEMENT, "give", far, 8);
        }
    }

    static void promise04EmptyObjectHasNothingToGiveTo() {
        Cases.refused(State.EMPTY, ELEMENT, "give", 0, 8);
    }

    // "another kind": UNSOLVED has each of them

    private static void refusedAsKind(int expression) {
        Cases.refused(State.UNSOLVED, UNSUPPORTED, "give", expression, 8);
        Cases.refused(State.SOLVED, UNSUPPORTED, "give", expression, 8);
    }

    static void promise04NumberIsRefused() {
        refusedAsKind(2);
    }

    static void promise04PlusIsRefused() {
        refusedAsKind(3);
    }

    static void promise04MinusIsRefused() {
        refusedAsKind(4);
    }

    static void promise04TimesIsRefused() {
        refusedAsKind(5);
    }

    static void promise04ShareIsRefused() {
        refusedAsKind(6);
    }

    static void promise04SameIsRefused() {
        refusedAsKind(7);
    }

    static void promise04EitherIsRefused() {
        refusedAsKind(8);
    }

    static void promise04NotIsRefused() {
        refusedAsKind(9);
    }

    static void promise04PowerIsRefused() {
        refusedAsKind(10);
    }

    /** Each of these has the very sum of the input. */
    static void promise04OtherKindsWithTheSumOfAnInputAreRefused() {
        State state = new State("an input under other names", x -> {
            x.input(9);
            x.number(0);
            x.number(1);
            x.plus(0, 1);
            x.minus(0, 1);
            x.times(0, 2);
            x.either(0, 1, 2);
            x.not(x.not(0));
            x.power(0, 1);
        });
        for (int expression = 1; expression < state.count(0); expression++) {
            Cases.refused(state, UNSUPPORTED, "give", expression, 8);
        }
        Cases.due(state, 9, "give", 0, 8);
    }

    // "Gives a value (its remainder by 97, from 0 on) ...; answers the one before"

    private static void givenIs(int value, int want) {
        Subject x = new Subject();
        x.expression(Checks.INPUT, 0, 0, 0);
        x.give(0, value);
        x.solve();
        Checks.due("what an input given " + value + " has", x.value(0), want);
        Checks.due("what was given before", x.give(0, 50), want);
    }

    static void promise04Given0Is0() {
        givenIs(0, 0);
    }

    static void promise04Given1Is1() {
        givenIs(1, 1);
    }

    static void promise04Given96Is96() {
        givenIs(96, 96);
    }

    static void promise04Given97Is0() {
        givenIs(97, 0);
    }

    static void promise04Given98Is1() {
        givenIs(98, 1);
    }

    static void promise04GivenMinus1Is96() {
        givenIs(-1, 96);
    }

    static void promise04GivenMinus96Is1() {
        givenIs(-96, 1);
    }

    static void promise04GivenMinus97Is0() {
        givenIs(-97, 0);
    }

    static void promise04GivenMinus98Is96() {
        givenIs(-98, 96);
    }

    static void promise04LeastIntIs31() {
        givenIs(Integer.MIN_VALUE, 31);
    }

    static void promise04GreatestIntIs65() {
        givenIs(Integer.MAX_VALUE, 65);
    }

    /** "0 at first" */
    static void promise04BeforeTheFirstGivingItIs0() {
        Subject x = new Subject();
        for (int i = 0; i < 59; i++) {
            x.expression(Checks.INPUT, 7, 7, 7);
        }
        x.solve();
        for (int i = 0; i < 59; i++) {
            Checks.due("value of input " + i, x.value(i), 0);
            Checks.due("what was given before", x.give(i, 8), 0);
        }
    }

    /** "what was given for it last" */
    static void promise04LastGivingCounts() {
        Subject x = new Subject();
        x.input(1);
        Checks.due("second giving", x.give(0, 2), 1);
        Checks.due("third giving", x.give(0, 3), 2);
        x.solve();
        Checks.due("value", x.value(0), 3);
        Checks.due("giving behind the solving", x.give(0, 4), 3);
        Checks.due("and once more", x.give(0, 5), 4);
    }

    static void promise04EachOf59InputsHasItsOwn() {
        Subject x = new Subject();
        for (int i = 0; i < 59; i++) {
            x.input(i + 1);
        }
        x.give(30, 90);
        x.solve();
        for (int i = 0; i < 59; i++) {
            Checks.due("value of input " + i, x.value(i), i == 30 ? 90 : i + 1);
        }
    }

    /** "What was given afterwards ... does not change the WITNESS" */
    static void promise04GivenAfterwardsLeavesTheWitness() {
        State given = State.SOLVED.and("given something", x -> {
            x.give(0, 1);
            x.give(1, 2);
        });
        Subject before = State.SOLVED.make();
        Subject behind = given.make();
        Checks.due("counts", behind.counts(), before.counts());
        Checks.due("broken", behind.broken(), before.broken());
        Checks.due("first", behind.first(), before.first());
        for (int expression = 0; expression <= 10; expression++) {
            Checks.due("value " + expression, behind.value(expression), before.value(expression));
        }
        for (int variable = 1; variable < before.count(5); variable++) {
            Checks.due("variable " + variable, behind.tamper(variable, 0), before.tamper(variable, 0));
        }
    }

    // "at most 512 calls"

    static void promise04Call512IsAnswered() {
        Cases.dueAsLastCall(State.SOLVED, 7, "give", 0, 8);
        Cases.dueAsLastCall(State.SOLVED, ELEMENT, "give", 60, 8);
        Cases.dueAsLastCall(State.SOLVED, UNSUPPORTED, "give", 2, 8);
    }

    static void promise04All511CallsBehindAnInputMayBeGivings() {
        Subject x = new Subject();
        x.expression(Checks.INPUT, 0, 0, 0);
        for (int i = 0; i < 511; i++) {
            Checks.due("giving " + i, x.give(0, i + 1), i % 97);
        }
    }

    static void promise04All512CallsMayBeRefused() {
        Cases.refused512Times(ELEMENT, "give", 0, 8);
    }
}
