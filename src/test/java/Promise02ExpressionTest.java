import java.util.Arrays;

public final class Promise02ExpressionTest {
    private static final Class<IllegalArgumentException> ARGUMENT = IllegalArgumentException.class;
    private static final Class<IllegalStateException> STATE = IllegalStateException.class;

    public static void main(String[] args) {
        numbersAreRemainders();
        inputsAreVariables();
        plusAndMinus();
        timesMakesAConstraint();
        timesOfConstants();
        timesOfAConstantThatIsHidden();
        share();
        shareOfConstants();
        same();
        sameOfConstants();
        either();
        eitherOfConstants();
        not();
        powers();
        powerOfAConstant();
        constraintsOfLongerSums();
        sumsKeepWhatTheyWere();
        wrongArguments();
        whatHasNoUseMayBeAnything();
        noRoomForExpressions();
        noRoomForVariables();
        noRoomForConstraints();
        roomForThoseThatNeedNone();
        Checks.end();
    }

    private static void numbersAreRemainders() {
        Subject x = new Subject();
        int[] numbers = {0, 1, 96, 97, 98, -1, -96, -97, -98, Integer.MAX_VALUE, Integer.MIN_VALUE};
        int[] due = {0, 1, 96, 0, 1, 96, 1, 0, 96, 65, 31};
        for (int i = 0; i < numbers.length; i++) {
            Checks.due("number " + numbers[i], x.expression(Checks.NUMBER, numbers[i], 0, 0), i);
            Checks.due("terms of it", x.terms(i), due[i] == 0 ? 0 : 1);
        }
        Checks.due("counts", x.counts(), "[11, 1, 0, 0, 0, 0]");
        x.solve();
        for (int i = 0; i < numbers.length; i++) {
            Checks.due("value of number " + numbers[i], x.value(i), due[i]);
        }
    }

    private static void inputsAreVariables() {
        Subject x = new Subject();
        Checks.due("first input", x.expression(Checks.INPUT, 0, 0, 0), 0);
        Checks.due("second input", x.expression(Checks.INPUT, 0, 0, 0), 1);
        Checks.due("counts", x.counts(), "[2, 3, 0, 2, 0, 0]");
        x.claim(Checks.BIT, 0, 0);
        x.claim(Checks.BIT, 1, 0);
        Checks.rows(x, 0, "[0, 1, 0]", "[1, 96, 0]", "[0, 0, 0]");
        Checks.rows(x, 1, "[0, 0, 1]", "[1, 0, 96]", "[0, 0, 0]");
    }

    private static void plusAndMinus() {
        Subject x = Checks.withInputs(90, 20);
        Checks.due("plus", x.expression(Checks.PLUS, 0, 1, 0), 2);
        Checks.due("minus", x.expression(Checks.MINUS, 1, 0, 0), 3);
        Checks.due("plus of itself", x.expression(Checks.PLUS, 2, 2, 0), 4);
        Checks.due("minus of itself", x.expression(Checks.MINUS, 2, 2, 0), 5);
        Checks.due("sum of plus and minus", x.expression(Checks.PLUS, 2, 3, 0), 6);
        Checks.due("counts", x.counts(), "[7, 3, 0, 2, 0, 0]");
        x.solve();
        int[] values = {90, 20, 13, 27, 26, 0, 40};
        int[] terms = {1, 1, 2, 2, 2, 0, 1};
        for (int i = 0; i < values.length; i++) {
            Checks.due("value " + i, x.value(i), values[i]);
            Checks.due("terms " + i, x.terms(i), terms[i]);
        }
        x.claim(Checks.BIT, 3, 0);
        x.claim(Checks.BIT, 4, 0);
        Checks.rows(x, 0, "[0, 96, 1]", "[1, 1, 96]", "[0, 0, 0]");
        Checks.rows(x, 1, "[0, 2, 2]", "[1, 95, 95]", "[0, 0, 0]");
    }

    private static void timesMakesAConstraint() {
        Subject x = Checks.withInputs(12, 13);
        x.expression(Checks.PLUS, 0, 1, 0);
        Checks.due("times", x.expression(Checks.TIMES, 2, 1, 0), 3);
        Checks.due("counts", x.counts(), "[4, 4, 1, 2, 0, 0]");
        Checks.rows(x, 0, "[0, 1, 1, 0]", "[0, 0, 1, 0]", "[0, 0, 0, 1]");
        Checks.due("terms of a product", x.terms(3), 1);
        x.solve();
        Checks.due("product", x.value(3), 25 * 13 % 97);
        Checks.due("square", x.expression(Checks.TIMES, 0, 0, 0), 4);
        Checks.rows(x, 1, "[0, 1, 0, 0, 0]", "[0, 1, 0, 0, 0]", "[0, 0, 0, 0, 1]");
    }

    private static void timesOfConstants() {
        Subject x = Checks.withInputs(12);
        x.expression(Checks.NUMBER, 50, 0, 0);
        x.expression(Checks.PLUS, 0, 1, 0);
        Checks.due("constant first", x.expression(Checks.TIMES, 1, 2, 0), 3);
        Checks.due("constant second", x.expression(Checks.TIMES, 2, 1, 0), 4);
        Checks.due("both constant", x.expression(Checks.TIMES, 1, 1, 0), 5);
        Checks.due("counts", x.counts(), "[6, 2, 0, 1, 0, 0]");
        for (int i = 3; i <= 5; i++) {
            x.claim(Checks.EQUAL, i, 0);
        }
        Checks.rows(x, 0, "[75, 49]", "[1, 0]", "[0, 0]");
        Checks.rows(x, 1, "[75, 49]", "[1, 0]", "[0, 0]");
        Checks.rows(x, 2, "[75, 96]", "[1, 0]", "[0, 0]");
    }

    /** The sum says what is constant, not the kind: 0 is constant, and x + 5 - x is too. */
    private static void timesOfAConstantThatIsHidden() {
        Subject x = Checks.withInputs(12);
        x.expression(Checks.NUMBER, 5, 0, 0);
        x.expression(Checks.PLUS, 0, 1, 0);
        x.expression(Checks.MINUS, 2, 0, 0);
        x.expression(Checks.MINUS, 0, 0, 0);
        x.expression(Checks.TIMES, 0, 3, 0);
        x.expression(Checks.TIMES, 0, 4, 0);
        x.expression(Checks.TIMES, 4, 0, 0);
        Checks.due("counts", x.counts(), "[8, 2, 0, 1, 0, 0]");
        Checks.due("terms of 5 x", x.terms(5), 1);
        Checks.due("terms of x 0", x.terms(6), 0);
        Checks.due("terms of 0 x", x.terms(7), 0);
        x.solve();
        Checks.due("5 x", x.value(5), 60);
        Checks.due("x 0", x.value(6), 0);
    }

    private static void share() {
        Subject x = Checks.withInputs(10, 3);
        Checks.due("share", x.expression(Checks.SHARE, 0, 1, 0), 2);
        Checks.due("counts", x.counts(), "[3, 5, 2, 2, 0, 0]");
        Checks.rows(x, 0, "[0, 0, 1, 0, 0]", "[0, 0, 0, 1, 0]", "[1, 0, 0, 0, 0]");
        Checks.rows(x, 1, "[0, 1, 0, 0, 0]", "[0, 0, 0, 1, 0]", "[0, 0, 0, 0, 1]");
        Checks.due("solve", x.solve(), 0);
        Checks.due("terms", x.terms(2), 1);
        Checks.due("10 / 3", x.value(2) * 3 % 97, 10);
    }

    private static void shareOfConstants() {
        Subject x = new Subject();
        x.expression(Checks.NUMBER, 1, 0, 0);
        x.expression(Checks.NUMBER, 2, 0, 0);
        Checks.due("share of constants", x.expression(Checks.SHARE, 0, 1, 0), 2);
        Checks.due("counts", x.counts(), "[3, 3, 2, 0, 0, 0]");
        Checks.rows(x, 0, "[2, 0, 0]", "[0, 1, 0]", "[1, 0, 0]");
        Checks.rows(x, 1, "[1, 0, 0]", "[0, 1, 0]", "[0, 0, 1]");
        Checks.due("solve", x.solve(), 0);
        Checks.due("1 / 2", x.value(2), 49);
        x.expression(Checks.NUMBER, 0, 0, 0);
        Checks.due("share by the number 0", x.expression(Checks.SHARE, 0, 3, 0), 4);
        Checks.refused("solve", ArithmeticException.class, x::solve);
    }

    private static void same() {
        Subject x = Checks.withInputs(10, 7);
        Checks.due("same", x.expression(Checks.SAME, 0, 1, 0), 2);
        Checks.due("counts", x.counts(), "[3, 5, 2, 2, 0, 0]");
        Checks.rows(x, 0, "[0, 1, 96, 0, 0]", "[0, 0, 0, 1, 0]", "[1, 0, 0, 0, 96]");
        Checks.rows(x, 1, "[0, 1, 96, 0, 0]", "[0, 0, 0, 0, 1]", "[0, 0, 0, 0, 0]");
        Checks.due("solve", x.solve(), 0);
        Checks.due("10 is 7", x.value(2), 0);
        Checks.due("inverse of 3", x.tamper(3, 0), 65);
        x.give(1, 10);
        Checks.due("solve", x.solve(), 0);
        Checks.due("10 is 10", x.value(2), 1);
        Checks.due("i where they are the same", x.tamper(3, 0), 0);
    }

    private static void sameOfConstants() {
        Subject x = new Subject();
        x.expression(Checks.NUMBER, 4, 0, 0);
        x.expression(Checks.NUMBER, 101, 0, 0);
        Checks.due("same of constants", x.expression(Checks.SAME, 0, 1, 0), 2);
        Checks.due("counts", x.counts(), "[3, 3, 2, 0, 0, 0]");
        Checks.rows(x, 0, "[0, 0, 0]", "[0, 1, 0]", "[1, 0, 96]");
        Checks.due("solve", x.solve(), 0);
        Checks.due("4 is 101", x.value(2), 1);
    }

    private static void either() {
        Subject x = Checks.withInputs(30, 50, 1);
        Checks.due("either", x.expression(Checks.EITHER, 0, 1, 2), 3);
        Checks.due("counts", x.counts(), "[4, 5, 1, 3, 0, 0]");
        Checks.rows(x, 0, "[0, 0, 0, 1, 0]", "[0, 1, 96, 0, 0]", "[0, 0, 0, 0, 1]");
        Checks.due("terms", x.terms(3), 2);
        x.solve();
        Checks.due("a", x.value(3), 30);
        x.give(2, 0);
        x.solve();
        Checks.due("b", x.value(3), 50);
        x.give(2, 2);
        x.solve();
        Checks.due("c is 2", x.value(3), 10);
    }

    private static void eitherOfConstants() {
        Subject x = Checks.withInputs(30, 50);
        x.expression(Checks.NUMBER, 1, 0, 0);
        x.expression(Checks.NUMBER, 7, 0, 0);
        x.expression(Checks.EITHER, 0, 1, 2);
        x.expression(Checks.EITHER, 2, 3, 0);
        x.expression(Checks.EITHER, 0, 0, 1);
        Checks.due("counts", x.counts(), "[7, 3, 0, 2, 0, 0]");
        Checks.due("terms, c constant", x.terms(4), 1);
        Checks.due("terms, a - b constant", x.terms(5), 2);
        Checks.due("terms, a - b 0", x.terms(6), 1);
        x.solve();
        Checks.due("c constant", x.value(4), 30);
        Checks.due("a - b constant", x.value(5), (7 + 30 * 91) % 97);
        Checks.due("a - b 0", x.value(6), 30);
    }

    private static void not() {
        Subject x = Checks.withInputs(30);
        Checks.due("not", x.expression(Checks.NOT, 0, 0, 0), 1);
        Checks.due("not not", x.expression(Checks.NOT, 1, 0, 0), 2);
        Checks.due("counts", x.counts(), "[3, 2, 0, 1, 0, 0]");
        x.claim(Checks.EQUAL, 1, 2);
        Checks.rows(x, 0, "[1, 95]", "[1, 0]", "[0, 0]");
        x.solve();
        Checks.due("1 - 30", x.value(1), 68);
        Checks.due("1 - (1 - 30)", x.value(2), 30);
    }

    private static void powers() {
        int[] due = {3, 9, 27, 81, 49};
        for (int b = 1; b <= 5; b++) {
            Subject x = Checks.withInputs(3);
            Checks.due("power " + b, x.expression(Checks.POWER, 0, b, 0), 1);
            Checks.due("variables of power " + b, x.count(1), 1 + b);
            Checks.due("constraints of power " + b, x.count(2), b - 1);
            Checks.due("solve", x.solve(), 0);
            Checks.due("3 to the power " + b, x.value(1), due[b - 1]);
            Checks.due("terms", x.terms(1), 1);
        }
        Subject x = Checks.withInputs(3);
        x.expression(Checks.POWER, 0, 3, 0);
        Checks.rows(x, 0, "[0, 1, 0, 0]", "[0, 1, 0, 0]", "[0, 0, 1, 0]");
        Checks.rows(x, 1, "[0, 0, 1, 0]", "[0, 1, 0, 0]", "[0, 0, 0, 1]");
    }

    private static void powerOfAConstant() {
        Subject x = new Subject();
        x.expression(Checks.NUMBER, 3, 0, 0);
        Checks.due("power of a constant", x.expression(Checks.POWER, 0, 5, 0), 1);
        Checks.due("counts", x.counts(), "[2, 1, 0, 0, 0, 0]");
        x.solve();
        Checks.due("3 to the power 5", x.value(1), 49);
    }

    /** a is 2 x + 5, b is y - x, so that no sum of a constraint can be taken for another. */
    private static void constraintsOfLongerSums() {
        Subject x = Checks.withInputs(3, 4);
        x.number(5);
        x.plus(0, 0);
        int a = x.plus(3, 2);
        int b = x.minus(1, 0);
        x.times(a, b);
        x.share(a, b);
        x.same(a, b);
        x.either(a, b, b);
        x.power(a, 4);
        String sumA = "[5, 2, 0, 0, 0, 0, 0, 0, 0, 0, 0, 0]";
        String sumB = "[0, 96, 1, 0, 0, 0, 0, 0, 0, 0, 0, 0]";
        String difference = "[5, 3, 96, 0, 0, 0, 0, 0, 0, 0, 0, 0]";
        Checks.rows(x, 0, sumA, sumB, only(3));
        Checks.rows(x, 1, sumB, only(4), only(0));
        Checks.rows(x, 2, sumA, only(4), only(5));
        Checks.rows(x, 3, difference, only(6), "[1, 0, 0, 0, 0, 0, 0, 96, 0, 0, 0, 0]");
        Checks.rows(x, 4, difference, only(7), only(-1));
        Checks.rows(x, 5, sumB, difference, only(8));
        Checks.rows(x, 6, sumA, sumA, only(9));
        Checks.rows(x, 7, only(9), sumA, only(10));
        Checks.rows(x, 8, only(10), sumA, only(11));
        Checks.due("solve", x.solve(), 0);
        int[] due = {3, 4, 5, 6, 11, 1, 11, 11, 0, 11, 91};
        for (int i = 0; i < due.length; i++) {
            Checks.due("value " + i, x.value(i), due[i]);
        }
    }

    /** The row of a sum of 12 variables that has this one alone, or none. */
    private static String only(int variable) {
        int[] row = new int[12];
        if (variable >= 0) {
            row[variable] = 1;
        }
        return Arrays.toString(row);
    }

    private static void sumsKeepWhatTheyWere() {
        Subject x = Checks.withInputs(3, 5);
        x.expression(Checks.POWER, 0, 1, 0);
        x.claim(Checks.EQUAL, 0, 1);
        for (int kind = Checks.PLUS; kind <= Checks.POWER; kind++) {
            x.expression(kind, 0, 1, 1);
            x.expression(kind, 2, 1, 1);
        }
        x.solve();
        Checks.due("value 0", x.value(0), 3);
        Checks.due("value 1", x.value(1), 5);
        Checks.due("value 2", x.value(2), 3);
        Checks.due("A", x.row(0, 0, 4), "[0, 1, 96, 0]");
        Checks.due("B", x.row(0, 1, 4), "[1, 0, 0, 0]");
        Checks.due("C", x.row(0, 2, 4), "[0, 0, 0, 0]");
    }

    private static void wrongArguments() {
        Subject x = Checks.withInputs(3, 5);
        for (int kind : new int[] {-1, 10, Integer.MIN_VALUE, Integer.MAX_VALUE}) {
            wrong(x, kind, 0, 0, 0);
        }
        for (int missing : new int[] {-1, 2, 60, Integer.MIN_VALUE, Integer.MAX_VALUE}) {
            for (int kind = Checks.PLUS; kind <= Checks.POWER; kind++) {
                wrong(x, kind, missing, 1, 1);
            }
        }
        for (int missing : new int[] {-1, 2, Integer.MAX_VALUE}) {
            for (int kind = Checks.PLUS; kind <= Checks.EITHER; kind++) {
                wrong(x, kind, 1, missing, 1);
            }
            wrong(x, Checks.EITHER, 0, 1, missing);
        }
        for (int power : new int[] {0, 6, -1, Integer.MIN_VALUE, Integer.MAX_VALUE}) {
            Checks.refused("power " + power, ARGUMENT, () -> x.expression(Checks.POWER, 0, power, 0));
        }
        Checks.due("the next expression", x.expression(Checks.NUMBER, 0, 0, 0), 2);
        Checks.due("counts", x.counts(), "[3, 3, 0, 2, 0, 0]");
    }

    private static void wrong(Subject x, int kind, int a, int b, int c) {
        Checks.refused("expression " + kind + " " + a + " " + b + " " + c, ARGUMENT,
                () -> x.expression(kind, a, b, c));
    }

    private static void whatHasNoUseMayBeAnything() {
        int[] anything = {-1, 77, Integer.MIN_VALUE, Integer.MAX_VALUE};
        for (int any : anything) {
            Subject x = Checks.withInputs(3, 5);
            Checks.due("number", x.expression(Checks.NUMBER, 1, any, any), 2);
            Checks.due("input", x.expression(Checks.INPUT, any, any, any), 3);
            for (int kind = Checks.PLUS; kind <= Checks.SAME; kind++) {
                Checks.due("kind " + kind, x.expression(kind, 0, 1, any), kind + 2);
            }
            Checks.due("not", x.expression(Checks.NOT, 0, any, any), 9);
            Checks.due("power", x.expression(Checks.POWER, 0, 2, any), 10);
        }
    }

    private static void noRoomForExpressions() {
        Subject x = Checks.withInputs(3);
        for (int i = 1; i < 60; i++) {
            Checks.due("expression", x.expression(Checks.NUMBER, i, 0, 0), i);
        }
        for (int kind = Checks.NUMBER; kind <= Checks.POWER; kind++) {
            int k = kind;
            Checks.refusedWhole("the 61st, of kind " + k, x, STATE, () -> x.expression(k, 0, 1, 0));
        }
        Checks.refused("a wrong kind goes first", ARGUMENT, () -> x.expression(10, 0, 0, 0));
        Checks.refused("a missing a goes first", ARGUMENT, () -> x.expression(Checks.NOT, 60, 0, 0));
        Checks.refused("a wrong power goes first", ARGUMENT, () -> x.expression(Checks.POWER, 0, 6, 0));
        Checks.due("the last is there", x.terms(59), 1);
    }

    /** Variables 1 .. used are made, by powers of the input, so that expressions are spared. */
    private static Subject withVariables(int used) {
        Subject x = Checks.withInputs(3);
        while (x.count(1) - 1 < used) {
            int missing = used - x.count(1) + 1;
            x.expression(Checks.POWER, 0, 1 + Math.min(4, missing), 0);
        }
        return x;
    }

    private static void noRoomForVariables() {
        Subject full = withVariables(59);
        Checks.due("variables", full.count(1), 60);
        for (int kind : new int[] {Checks.INPUT, Checks.TIMES, Checks.SHARE, Checks.SAME, Checks.POWER}) {
            Checks.refusedWhole("kind " + kind + " without a variable left", full, STATE,
                    () -> full.expression(kind, 0, 2, 0));
        }
        Checks.refusedWhole("either without a variable left", full, STATE,
                () -> full.expression(Checks.EITHER, 1, 2, 3));

        Subject one = withVariables(58);
        Checks.refusedWhole("share with one left", one, STATE, () -> one.expression(Checks.SHARE, 0, 0, 0));
        Checks.refusedWhole("same with one left", one, STATE, () -> one.expression(Checks.SAME, 0, 0, 0));
        Checks.refusedWhole("power 3 with one left", one, STATE, () -> one.expression(Checks.POWER, 0, 3, 0));
        int next = one.count(0);
        Checks.due("power 2 with one left", one.expression(Checks.POWER, 0, 2, 0), next);
        Checks.due("variables", one.count(1), 60);

        Subject two = withVariables(57);
        next = two.count(0);
        Checks.due("share with two left", two.expression(Checks.SHARE, 0, 0, 0), next);
        Subject four = withVariables(55);
        next = four.count(0);
        Checks.due("power 5 with four left", four.expression(Checks.POWER, 0, 5, 0), next);
        Subject three = withVariables(56);
        Checks.refusedWhole("power 5 with three left", three, STATE, () -> three.expression(Checks.POWER, 0, 5, 0));
        Subject last = withVariables(58);
        next = last.count(0);
        Checks.due("the last input", last.expression(Checks.INPUT, 0, 0, 0), next);
        last.give(next, 8);
        last.solve();
        Checks.due("its value", last.value(next), 8);
        Checks.due("its variable", last.tamper(59, 9), 8);
    }

    private static Subject withConstraints(int used) {
        Subject x = Checks.withInputs(3, 4, 1);
        while (x.count(2) < used) {
            x.claim(Checks.BIT, 0, 0);
        }
        return x;
    }

    private static void noRoomForConstraints() {
        Subject full = withConstraints(80);
        for (int kind : new int[] {Checks.TIMES, Checks.SHARE, Checks.SAME, Checks.EITHER, Checks.POWER}) {
            Checks.refusedWhole("kind " + kind + " without a constraint left", full, STATE,
                    () -> full.expression(kind, 0, 2, 1));
        }
        Checks.due("an input needs none", full.expression(Checks.INPUT, 0, 0, 0), 3);

        Subject one = withConstraints(79);
        Checks.refusedWhole("share with one left", one, STATE, () -> one.expression(Checks.SHARE, 0, 1, 0));
        Checks.refusedWhole("same with one left", one, STATE, () -> one.expression(Checks.SAME, 0, 1, 0));
        Checks.refusedWhole("power 3 with one left", one, STATE, () -> one.expression(Checks.POWER, 0, 3, 0));
        Checks.due("times with one left", one.expression(Checks.TIMES, 0, 1, 0), 3);
        Checks.due("constraints", one.count(2), 80);
        Subject two = withConstraints(78);
        Checks.due("same with two left", two.expression(Checks.SAME, 0, 1, 0), 3);
        Checks.due("constraints", two.count(2), 80);
        Subject last = withConstraints(79);
        Checks.due("either with one left", last.expression(Checks.EITHER, 0, 1, 2), 3);
    }

    private static void roomForThoseThatNeedNone() {
        Subject x = withVariables(59);
        int five = x.expression(Checks.NUMBER, 5, 0, 0);
        int next = five + 1;
        while (x.count(2) < 80) {
            x.claim(Checks.BIT, 0, 0);
        }
        Checks.due("number", x.expression(Checks.NUMBER, 1, 0, 0), next++);
        Checks.due("plus", x.expression(Checks.PLUS, 0, 1, 0), next++);
        Checks.due("minus", x.expression(Checks.MINUS, 0, 1, 0), next++);
        Checks.due("times, a constant", x.expression(Checks.TIMES, five, 1, 0), next++);
        Checks.due("times, b constant", x.expression(Checks.TIMES, 1, five, 0), next++);
        Checks.due("either, c constant", x.expression(Checks.EITHER, 0, 1, five), next++);
        Checks.due("either, a - b constant", x.expression(Checks.EITHER, 1, 1, 0), next++);
        Checks.due("not", x.expression(Checks.NOT, 0, 0, 0), next++);
        Checks.due("power 1", x.expression(Checks.POWER, 0, 1, 0), next++);
        Checks.due("power 5 of a constant", x.expression(Checks.POWER, five, 5, 0), next++);
        Checks.refusedWhole("share of constants", x, STATE, () -> x.expression(Checks.SHARE, five, five, 0));
        Checks.refusedWhole("same of constants", x, STATE, () -> x.expression(Checks.SAME, five, five, 0));
    }
}
