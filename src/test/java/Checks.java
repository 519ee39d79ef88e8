import java.util.function.IntSupplier;

/** What the tests have in common: every wrong answer is printed, and one is enough to fail. */
final class Checks {
    static final int NUMBER = 0;
    static final int INPUT = 1;
    static final int PLUS = 2;
    static final int MINUS = 3;
    static final int TIMES = 4;
    static final int SHARE = 5;
    static final int SAME = 6;
    static final int EITHER = 7;
    static final int NOT = 8;
    static final int POWER = 9;
    static final int EQUAL = 0;
    static final int BIT = 1;

    private static int checked = 0;
    private static int wrong = 0;

    private Checks() {
    }

    static void due(String what, Object got, Object want) {
        checked++;
        if (!want.equals(got)) {
            wrong++;
            System.out.println(what + " answered " + got + ", due is " + want);
        }
    }

    /** The very class is asked for: a subclass of the exception that is due is wrong. */
    static void refused(String what, Class<? extends RuntimeException> want, IntSupplier call) {
        Object got;
        try {
            got = call.getAsInt();
        } catch (RuntimeException e) {
            got = e.getClass();
        }
        due(what, got, want);
    }

    /** As refused, and the counts, among them the witness's, must stay as they were. */
    static void refusedWhole(
            String what, Subject x, Class<? extends RuntimeException> want, IntSupplier call) {
        String before = x.counts();
        refused(what, want, call);
        due(what + ", counts behind it", x.counts(), before);
    }

    static void rows(Subject x, int constraint, String a, String b, String c) {
        int until = x.count(1);
        due("A of constraint " + constraint, x.row(constraint, 0, until), a);
        due("B of constraint " + constraint, x.row(constraint, 1, until), b);
        due("C of constraint " + constraint, x.row(constraint, 2, until), c);
    }

    static Subject withInputs(int... given) {
        Subject x = new Subject();
        for (int value : given) {
            x.give(x.expression(INPUT, 0, 0, 0), value);
        }
        return x;
    }

    static int checked() {
        return checked;
    }

    static int wrong() {
        return wrong;
    }

    static void end() {
        System.out.println(checked + " checks, " + wrong + " wrong");
        if (wrong != 0 || checked == 0) {
            System.exit(1);
        }
    }
}
