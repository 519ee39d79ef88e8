import java.util.List;

/** The edges of solve: nothing and everything that does not hold, the number 0, and failures. */
public final class Promise05BoundaryTest {
    private static final Class<ArithmeticException> FAILURE = ArithmeticException.class;

    public static void main(String[] args) {
        Cases.run(Promise05BoundaryTest.class);
    }

    // "answers how many constraints do not hold"

    static void promise05EmptyObjectHasNoneThatDoesNotHold() {
        Cases.due(State.EMPTY, 0, "solve");
    }

    private static Subject with80Bits(int given) {
        Subject x = new Subject();
        x.input(given);
        x.input(0);
        for (int i = 0; i < 79; i++) {
            x.bit(0);
        }
        x.bit(1);
        return x;
    }

    static void promise05NoneOf80DoesNotHold() {
        Checks.due("solve", with80Bits(1).solve(), 0);
    }

    static void promise05All80DoNotHold() {
        Subject x = with80Bits(2);
        x.give(1, 2);
        Checks.due("solve", x.solve(), 80);
    }

    static void promise05AllButTheLastDoNotHold() {
        Checks.due("solve", with80Bits(2).solve(), 79);
    }

    static void promise05LastAloneDoesNotHold() {
        Subject x = with80Bits(1);
        x.give(1, 2);
        Checks.due("solve", x.solve(), 1);
    }

    /** Variables of a TIMES, a SHARE and a SAME fulfil their constraints, whatever is given. */
    static void promise05ConstraintsOfExpressionsHoldForEveryNumber() {
        Subject x = new Subject();
        x.input(0);
        x.number(1);
        x.times(0, 0);
        x.same(0, 1);
        x.either(0, 1, 3);
        x.plus(0, 3);
        x.power(0, 5);
        for (int number = 0; number <= 96; number++) {
            x.give(0, number);
            Checks.due("solve for " + number, x.solve(), 0);
        }
    }

    // "the INVERSE of a number but 0 is the one with which its product is 1"

    static void promise05InverseOf1Is1() {
        inverseIs(1, 1);
    }

    static void promise05InverseOf2Is49() {
        inverseIs(2, 49);
    }

    static void promise05InverseOf96Is96() {
        inverseIs(96, 96);
    }

    private static void inverseIs(int number, int want) {
        Subject x = new Subject();
        x.input(number);
        x.number(1);
        x.number(0);
        x.share(1, 0);
        x.same(0, 2);
        Checks.due("solve", x.solve(), 0);
        Checks.due("1 by " + number, x.value(3), want);
        Checks.due("i of the share", x.tamper(2, 0), want);
        Checks.due("i of the same", x.tamper(4, 0), want);
    }

    static void promise05EveryNumberBut0HasItsInverse() {
        Subject x = new Subject();
        x.input(1);
        x.number(1);
        x.share(1, 0);
        for (int number = 1; number <= 96; number++) {
            x.give(0, number);
            Checks.due("solve for " + number, x.solve(), 0);
            Checks.due("product with the inverse of " + number, number * x.value(2) % 97, 1);
        }
    }

    // "i of a SAME the inverse of the value of (a - b), or 0 if that is 0, r of it 1 if that is 0, else 0"

    private static void sameIs(int a, int b, int wantI, int wantR) {
        Subject x = new Subject();
        x.input(a);
        x.input(b);
        x.same(0, 1);
        Checks.due("solve", x.solve(), 0);
        Checks.due("r for " + a + " and " + b, x.value(2), wantR);
        Checks.due("i for " + a + " and " + b, x.tamper(3, 0), wantI);
        Checks.due("r is the second variable", x.tamper(4, 0), wantR);
    }

    static void promise05SameOf0And0HasI0() {
        sameIs(0, 0, 0, 1);
    }

    static void promise05SameOf96And96HasI0() {
        sameIs(96, 96, 0, 1);
    }

    static void promise05SameOf97And0HasI0() {
        sameIs(97, 0, 0, 1);
    }

    static void promise05SameOfMinus1And96HasI0() {
        sameIs(-1, 96, 0, 1);
    }

    static void promise05SameOf1And0HasI1() {
        sameIs(1, 0, 1, 0);
    }

    static void promise05SameOf0And1HasI96() {
        sameIs(0, 1, 96, 0);
    }

    static void promise05SameOf0And96HasI1() {
        sameIs(0, 96, 1, 0);
    }

    static void promise05SameOfConstantsIsSolved() {
        Subject x = new Subject();
        x.number(97);
        x.number(-97);
        x.number(1);
        x.same(0, 1);
        x.same(0, 2);
        Checks.due("solve", x.solve(), 0);
        Checks.due("0 and 0", x.value(3), 1);
        Checks.due("0 and 1", x.value(4), 0);
    }

    // "The value of b of a SHARE being 0, there is a failure."

    private static State shareByInput(int given) {
        return new State("an object that shares by an input given " + given, x -> {
            x.input(8);
            x.input(given);
            x.share(0, 1);
        });
    }

    static void promise05ShareBy0Fails() {
        Cases.refused(shareByInput(0), FAILURE, "solve");
    }

    static void promise05ShareByAnInputNeverGivenFails() {
        State state = new State("an object that shares by an input never given", x -> {
            x.expression(Checks.INPUT, 0, 0, 0);
            x.share(0, 0);
        });
        Cases.refused(state, FAILURE, "solve");
    }

    static void promise05ShareBy97Fails() {
        Cases.refused(shareByInput(97), FAILURE, "solve");
        Cases.refused(shareByInput(-97), FAILURE, "solve");
    }

    static void promise05ShareBy1DoesNotFail() {
        Cases.due(shareByInput(1), 0, "solve");
    }

    static void promise05ShareBy96DoesNotFail() {
        Cases.due(shareByInput(96), 0, "solve");
    }

    static void promise05ShareByMinus1DoesNotFail() {
        Cases.due(shareByInput(-1), 0, "solve");
    }

    static void promise05ShareByTheNumber0Fails() {
        State state = new State("an object that shares by the number 0", x -> {
            x.number(8);
            x.number(0);
            x.share(0, 1);
        });
        Cases.refused(state, FAILURE, "solve");
    }

    static void promise05ShareOf0By0Fails() {
        State state = new State("an object that shares 0 by 0", x -> {
            x.input(0);
            x.share(0, 0);
        });
        Cases.refused(state, FAILURE, "solve");
    }

    static void promise05ShareOf0By1DoesNotFail() {
        Subject x = new Subject();
        x.input(0);
        x.number(1);
        x.share(0, 1);
        Checks.due("solve", x.solve(), 0);
        Checks.due("0 by 1", x.value(2), 0);
    }

    static void promise05ShareByASumThatWrapsTo0Fails() {
        State state = new State("an object that shares by 96 + 1", x -> {
            x.input(96);
            x.number(1);
            x.plus(0, 1);
            x.share(1, 2);
        });
        Cases.refused(state, FAILURE, "solve");
    }

    static void promise05ShareByAProductThatIs0Fails() {
        State state = new State("an object that shares by a SAME that is 0", x -> {
            x.input(5);
            x.number(4);
            x.same(0, 1);
            x.share(0, 2);
        });
        Cases.refused(state, FAILURE, "solve");
    }

    static void promise05ShareThatIsTakenTimes0FailsAllTheSame() {
        State state = shareByInput(0).and("times 0", x -> x.times(x.number(0), 2));
        Cases.refused(state, FAILURE, "solve");
    }

    static void promise05OneOfTwoSharesIsEnoughToFail() {
        State second = new State("an object whose second share is by 0", x -> {
            x.input(8);
            x.input(0);
            x.share(0, 0);
            x.share(0, 1);
        });
        Cases.refused(second, FAILURE, "solve");
        State first = new State("an object whose first share is by 0", x -> {
            x.input(8);
            x.input(0);
            x.share(0, 1);
            x.share(0, 0);
        });
        Cases.refused(first, FAILURE, "solve");
    }

    static void promise05ShareWithTheLastVariablesFails() {
        State state = State.left(5, 2, 2).and("solved, and sharing by 0", x -> {
            x.solve();
            x.share(0, 1);
            x.give(0, 60);
            x.give(1, 0);
        });
        Cases.refused(state, FAILURE, "solve");
    }

    // "a failure (the witness stays)"

    static void promise05FailureLeavesNoWitnessWhereNoneWas() {
        State state = State.UNSOLVED.and("given 0 to share by", x -> x.give(1, 0));
        Cases.refused(state, FAILURE, "solve");
        Subject x = state.make();
        x.answer("solve");
        Checks.due("witness", x.count(4) + " " + x.count(5), "0 0");
    }

    static void promise05FailureLeavesTheWitnessAndItsTampering() {
        Cases.refused(State.FAILING, FAILURE, "solve");
    }

    static void promise05SecondFailureLeavesTheWitnessToo() {
        Cases.refused(State.FAILING.and("failed", x -> x.answer("solve")), FAILURE, "solve");
    }

    static void promise05FailureLeavesTheOldConstraintsToBroken() {
        Subject x = State.FAILING.make();
        x.bit(x.number(2));
        int broken = x.broken();
        Checks.due("solve", x.answer("solve"), FAILURE);
        Checks.due("broken", x.broken(), broken);
    }

    static void promise05SolvingBehindAFailureIsAsIfThereWasNone() {
        State repaired = State.SOLVED.and("given 20 again", x -> x.give(1, 20));
        State failedFirst = State.FAILING.and("failed, and given 20 again", x -> {
            x.answer("solve");
            x.give(1, 20);
        });
        Checks.due("answers part", repaired.answers().partsFrom(failedFirst.answers()), "nowhere");
    }

    // "by rising numbers"

    static void promise05EachOf59VariablesRestsOnThoseBefore() {
        Subject x = new Subject();
        x.input(5);
        int want = 5;
        for (int i = 1; i < 59; i++) {
            x.times(i - 1, i - 1);
        }
        Checks.due("solve", x.solve(), 0);
        for (int i = 0; i < 59; i++) {
            Checks.due("square " + i, x.value(i), want);
            want = want * want % 97;
        }
    }

    static void promise05InputMadeBehindAProductKeepsItsNumber() {
        Subject x = new Subject();
        x.input(5);
        x.times(0, 0);
        x.input(7);
        x.solve();
        Checks.due("variable 1", x.tamper(1, 0), 5);
        Checks.due("variable 2", x.tamper(2, 0), 25);
        Checks.due("variable 3", x.tamper(3, 0), 7);
    }

    static void promise05ProductWraps() {
        Subject x = new Subject();
        x.input(96);
        x.input(96);
        x.times(0, 1);
        x.solve();
        Checks.due("96 times 96", x.value(2), 1);
    }

    /** 59 times 96 and the one: far over 97, in each of the 60 terms. */
    static void promise05SumOf60TermsWraps() {
        Subject x = new Subject();
        x.input(96);
        x.not(0);
        for (int last = 1; last < 59; last++) {
            x.either(0, last, 0);
        }
        Checks.due("terms", x.terms(59), 60);
        Checks.due("solve", x.solve(), 0);
        int sum = 2;
        for (int last = 1; last < 59; last++) {
            sum = Math.floorMod(96 * (96 - sum) + sum, 97);
        }
        Checks.due("value", x.value(59), sum);
    }

    // "What was given afterwards, or made, does not change the WITNESS of the last solving that had no failure."

    static void promise05MadeAfterwardsLeavesTheWitness() {
        Subject x = State.UNSOLVED.make();
        x.solve();
        Subject y = State.UNSOLVED.make();
        y.solve();
        y.input(1);
        y.share(0, 1);
        y.same(0, 1);
        y.bit(2);
        y.equal(0, 1);
        Checks.due("variables of the witness", y.count(5), x.count(5));
        Checks.due("broken", y.broken(), x.broken());
        Checks.due("first", y.first(), x.first());
        for (int expression = 0; expression <= 10; expression++) {
            Checks.due("value " + expression, y.value(expression), x.value(expression));
        }
    }

    static void promise05NextSolvingTakesInWhatWasGivenAndMade() {
        Subject x = new Subject();
        x.input(5);
        x.solve();
        x.give(0, 6);
        x.times(0, 0);
        x.bit(0);
        Checks.due("solve", x.solve(), 1);
        Checks.due("variables of the witness", x.count(5), 3);
        Checks.due("input", x.value(0), 6);
        Checks.due("product", x.value(1), 36);
    }

    static void promise05NextSolvingUndoesTamperingOfEveryVariable() {
        for (State state : List.of(State.UNSOLVED, State.FULL)) {
            Subject x = state.make();
            Subject y = state.make();
            x.solve();
            y.solve();
            for (int variable = 1; variable < y.count(5); variable++) {
                y.tamper(variable, y.tamper(variable, 0) + 1);
            }
            Checks.due("solve", y.solve(), x.broken());
            for (int variable = 1; variable < state.count(1); variable++) {
                Checks.due("variable " + variable, y.tamper(variable, 0), x.tamper(variable, 0));
            }
        }
    }

    // "at most 512 calls"

    static void promise05Call512IsAnswered() {
        Cases.dueAsLastCall(State.EMPTY, 0, "solve");
        Cases.dueAsLastCall(State.FULL, 22, "solve");
        Cases.dueAsLastCall(State.FAILING, FAILURE, "solve");
    }

    static void promise05All512CallsMayBeSolvings() {
        Subject empty = new Subject();
        while (empty.callsLeft() > 0) {
            Checks.due("solve", empty.solve(), 0);
        }
        Subject full = State.FULL.make();
        while (full.callsLeft() > 0) {
            Checks.due("solve", full.solve(), 22);
        }
    }
}
