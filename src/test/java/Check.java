import java.util.function.LongSupplier;

/** Counts the answers that are not as due, and ends a test with exit code 1 if there was one. */
final class Check {
    static final String BOUNDS = "IndexOutOfBoundsException";
    static final String ARGUMENT = "IllegalArgumentException";
    static final String STATE = "IllegalStateException";

    private static int wrong = 0;
    private static int checked = 0;

    private Check() {
    }

    static void is(String what, long want, long got) {
        checked++;
        if (want != got) {
            wrong++;
            System.out.println(what + " answered " + got + ", due is " + want);
        }
    }

    static void isTrue(String what, boolean got) {
        is(what, 1, got ? 1 : 0);
    }

    static void isFalse(String what, boolean got) {
        is(what, 0, got ? 1 : 0);
    }

    static void isDouble(String what, double want, double got) {
        checked++;
        if (want != got) {
            wrong++;
            System.out.println(what + " answered " + got + ", due is " + want);
        }
    }

    static void isText(String what, String want, String got) {
        checked++;
        if (!want.equals(got)) {
            wrong++;
            System.out.println(what + " answered " + got + ", due is " + want);
        }
    }

    /** What a call comes to: its answer, or the name of the exception of just the promised class. */
    static String outcome(LongSupplier call) {
        try {
            return Long.toString(call.getAsLong());
        } catch (RuntimeException thrown) {
            return thrown.getClass().getSimpleName();
        }
    }

    /** The call must throw just this, and leave the zoo as it was. */
    static void refuses(RuleZoo zoo, String what, String exception, LongSupplier call) {
        long before = zoo.digest();
        isText(what, exception, outcome(call));
        is(what + ", digest behind it", before, zoo.digest());
    }

    /** The call must answer this, and leave the zoo as it was. */
    static void tells(RuleZoo zoo, String what, long want, LongSupplier call) {
        long before = zoo.digest();
        isText(what, Long.toString(want), outcome(call));
        is(what + ", digest behind it", before, zoo.digest());
    }

    /**
     * The one zoo must be as the other, now and in the days to come: also in what digest() does not tell,
     * such as the latest meal of a rule. Calls: about 5 a rule, and 25 more.
     */
    static void same(String what, RuleZoo want, RuleZoo got) {
        is(what + ", digest()", want.digest(), got.digest());
        for (int rule = 0; rule < want.count(2); rule++) {
            is(what + ", prey(" + rule + ")", want.prey(rule), got.prey(rule));
            is(what + ", chain(" + rule + ")", want.chain(rule), got.chain(rule));
            is(what + ", lives(" + rule + ")", want.lives(rule), got.lives(rule));
            is(what + ", advise(" + rule + ")", want.advise(rule), got.advise(rule));
        }
        is(what + ", ends()", want.ends(), got.ends());
        is(what + ", last()", want.last(), got.last());
        for (int day = 1; day <= 12; day++) {
            is(what + ", pass(1)", want.pass(1), got.pass(1));
            is(what + ", digest() " + day + " days behind", want.digest(), got.digest());
        }
    }

    static void end() {
        System.out.println(checked + " checked, " + wrong + " wrong");
        if (checked == 0 || wrong != 0) {
            System.exit(1);
        }
    }
}
