import java.util.function.LongSupplier;

/**
 * Each row of the document that begins with "Throws": on both sides of each bound, and for the greatest and the
 * least int. Each test also shows that nothing was changed, by a twin to which no refused call was made.
 */
public final class RefusedCallsTest {
    private static final int LEAST = Integer.MIN_VALUE;
    private static final int GREATEST = Integer.MAX_VALUE;

    private static final int[] NO_CAGES = {-1, 20, LEAST, GREATEST};
    private static final int[] NO_KINDS = {-1, 6, LEAST, GREATEST};
    private static final int[] NO_NUMBERS = {0, 16, -1, LEAST, GREATEST};
    private static final int[] NO_DAYS = {0, 51, -1, LEAST, GREATEST};

    /** What the scene has: 0 starved, 2 was eaten, 3 was let out; 1, 4 and 5 are there; the cage 7 is free. */
    private static final int[] GONE = {0, 2, 3};
    private static final int[] NO_RULES = {-1, 6, 59, 60, 61, LEAST, GREATEST};

    private final RuleZoo zoo;
    private final RuleZoo twin;

    public static void main(String[] args) {
        comeMindsTheCage();
        comeMindsTheKind();
        comeMindsTheNumber();
        comeMindsARuleInTheCage();
        comeMindsSixtyThatCame();
        comeMindsSixtyWithTheBorn();
        comeThrowsTheFirstNamed();
        moveMindsTheRule();
        moveMindsTheCage();
        moveMindsThatItIsGone();
        moveMindsARuleInTheCage();
        moveMindsItsOwnCage();
        moveThrowsTheFirstNamed();
        feedMindsTheRule();
        feedMindsThatItIsGone();
        alterMindsTheRule();
        alterMindsTheNumber();
        alterMindsThatItIsGone();
        alterThrowsTheFirstNamed();
        freeMindsTheRule();
        freeMindsThatItIsGone();
        ruleMindsTheRule();
        ruleMindsWhatIsAsked();
        cageMindsTheCage();
        countMindsWhatIsAsked();
        mayMindsBothRules();
        preyMindsTheRule();
        huntersMindsTheRule();
        chainMindsTheRule();
        passMindsTheDays();
        foreseeMindsTheDays();
        foreseeMindsWhatIsAsked();
        foreseeThrowsTheFirstNamed();
        livesMindsTheRule();
        adviseMindsTheRule();
        anEmptyZooHasNoRule();
        theLastOfSixtyIsARule();
        anOffspringThatIsDueIsBornAlike();
        Check.end();
    }

    private static RuleZoo scene() {
        RuleZoo zoo = new RuleZoo();
        zoo.come(5, 0, 15);
        zoo.pass(9);
        zoo.come(0, 1, 9);
        zoo.come(1, 0, 4);
        zoo.come(10, 2, 15);
        zoo.pass(1);
        zoo.free(3);
        zoo.come(19, 2, 7);
        zoo.come(3, 4, 2);
        return zoo;
    }

    private RefusedCallsTest() {
        zoo = scene();
        twin = scene();
    }

    private void refuses(String what, String exception, LongSupplier call) {
        Check.refuses(zoo, what, exception, call);
    }

    private void nothingWasChanged(String what) {
        Check.same(what, twin, zoo);
    }

    // ---- come

    /** "Throws IndexOutOfBoundsException if cage is not 0 to 19" */
    private static void comeMindsTheCage() {
        RefusedCallsTest on = new RefusedCallsTest();
        for (int cage : NO_CAGES) {
            on.refuses("come to " + cage, Check.BOUNDS, () -> on.zoo.come(cage, 0, 1));
        }
        on.nothingWasChanged("come, cages");
        RuleZoo zoo = new RuleZoo();
        Check.is("come to 0", 0, zoo.come(0, 0, 1));
        Check.is("come to 19", 1, zoo.come(19, 0, 1));
    }

    /** "Throws IllegalArgumentException if kind is not 0 to 5 .." */
    private static void comeMindsTheKind() {
        RefusedCallsTest on = new RefusedCallsTest();
        for (int kind : NO_KINDS) {
            on.refuses("come with the kind " + kind, Check.ARGUMENT, () -> on.zoo.come(7, kind, 1));
        }
        on.nothingWasChanged("come, kinds");
        RuleZoo zoo = new RuleZoo();
        Check.is("come with the kind 0", 0, zoo.come(7, 0, 1));
        Check.is("come with the kind 5", 1, zoo.come(8, 5, 1));
    }

    /** ".. or number is not 1 to 15" */
    private static void comeMindsTheNumber() {
        RefusedCallsTest on = new RefusedCallsTest();
        for (int number : NO_NUMBERS) {
            for (int kind = 0; kind < 6; kind++) {
                int asked = kind;
                on.refuses("come with the number " + number, Check.ARGUMENT, () -> on.zoo.come(7, asked, number));
            }
        }
        on.nothingWasChanged("come, numbers");
        RuleZoo zoo = new RuleZoo();
        Check.is("come with the number 1", 0, zoo.come(7, 0, 1));
        Check.is("come with the number 15", 1, zoo.come(8, 0, 15));
    }

    /** "Throws IllegalStateException if there is a rule in the cage .." */
    private static void comeMindsARuleInTheCage() {
        RefusedCallsTest on = new RefusedCallsTest();
        for (int cage : new int[] {0, 3, 19}) {
            on.refuses("come to a rule in " + cage, Check.STATE, () -> on.zoo.come(cage, 0, 1));
        }
        on.nothingWasChanged("come to a rule");
        RuleZoo zoo = scene();
        Check.is("come to the cage of one that starved", 6, zoo.come(5, 0, 1));
        Check.is("come to the cage of one that was eaten", 7, zoo.come(1, 0, 1));
        Check.is("come to the cage of one that was let out", 8, zoo.come(10, 0, 1));
        zoo.move(6, 6);
        Check.is("come to the cage that one was brought from", 9, zoo.come(5, 0, 1));
        Check.refuses(zoo, "come to the cage that one was brought to", Check.STATE, () -> zoo.come(6, 0, 1));
    }

    /** So many came and were let out; then one comes to the cage 4, and two that it eats beside it. */
    private static RuleZoo breederBehind(int letOut) {
        RuleZoo zoo = new RuleZoo();
        for (int rule = 0; rule < letOut; rule++) {
            zoo.come(0, 0, 1);
            zoo.free(rule);
        }
        zoo.come(4, 1, 12);
        zoo.come(5, 4, 11);
        zoo.come(3, 4, 11);
        return zoo;
    }

    /** ".. or there were 60": all of them came. */
    private static void comeMindsSixtyThatCame() {
        RuleZoo zoo = breederBehind(56);
        RuleZoo twin = breederBehind(56);
        Check.is("come as the 60th", 59, zoo.come(15, 5, 15));
        twin.come(15, 5, 15);
        for (int cage : new int[] {0, 14, 19}) {
            Check.refuses(zoo, "come as the 61st to " + cage, Check.STATE, () -> zoo.come(cage, 0, 1));
        }
        Check.refuses(zoo, "come as the 61st, to a rule", Check.STATE, () -> zoo.come(15, 0, 1));
        Check.is("rules in all", 60, zoo.count(2));
        Check.same("come as the 61st", twin, zoo);
        Check.refuses(zoo, "come as the 61st to an empty zoo", Check.STATE, () -> zoo.come(0, 0, 1));
    }

    /** ".. or there were 60": also those that were born count. */
    private static void comeMindsSixtyWithTheBorn() {
        RuleZoo zoo = breederBehind(56);
        zoo.pass(2);
        Check.is("one was born", 1, zoo.count(6));
        Check.is("rules in all", 60, zoo.count(2));
        Check.refuses(zoo, "come behind 59 and one born", Check.STATE, () -> zoo.come(15, 0, 1));
        RuleZoo less = breederBehind(55);
        less.pass(2);
        Check.is("one was born", 1, less.count(6));
        Check.is("come behind 58 and one born", 59, less.come(15, 0, 1));
        Check.refuses(less, "come behind these", Check.STATE, () -> less.come(16, 0, 1));
    }

    /** "If several exceptions apply, the one that is named first is thrown." */
    private static void comeThrowsTheFirstNamed() {
        RefusedCallsTest on = new RefusedCallsTest();
        on.refuses("come, cage and kind", Check.BOUNDS, () -> on.zoo.come(20, 6, 1));
        on.refuses("come, cage and number", Check.BOUNDS, () -> on.zoo.come(-1, 0, 16));
        on.refuses("come, cage, kind and number", Check.BOUNDS, () -> on.zoo.come(GREATEST, LEAST, 0));
        on.refuses("come, kind and number", Check.ARGUMENT, () -> on.zoo.come(7, 6, 16));
        on.refuses("come, kind and a rule", Check.ARGUMENT, () -> on.zoo.come(0, 6, 1));
        on.refuses("come, number and a rule", Check.ARGUMENT, () -> on.zoo.come(0, 0, 0));
        on.nothingWasChanged("come, several");
        RuleZoo full = breederBehind(57);
        Check.refuses(full, "come, cage and 60", Check.BOUNDS, () -> full.come(-1, 0, 1));
        Check.refuses(full, "come, kind and 60", Check.ARGUMENT, () -> full.come(7, -1, 1));
        Check.refuses(full, "come, number and 60", Check.ARGUMENT, () -> full.come(7, 0, 16));
    }

    // ---- move

    /** "Throws IndexOutOfBoundsException if there is no such rule .." */
    private static void moveMindsTheRule() {
        RefusedCallsTest on = new RefusedCallsTest();
        for (int rule : NO_RULES) {
            on.refuses("move " + rule, Check.BOUNDS, () -> on.zoo.move(rule, 7));
        }
        on.nothingWasChanged("move, rules");
        Check.is("move the last one", 3, scene().move(5, 7));
    }

    /** ".. or cage is not 0 to 19" */
    private static void moveMindsTheCage() {
        RefusedCallsTest on = new RefusedCallsTest();
        for (int cage : NO_CAGES) {
            on.refuses("move to " + cage, Check.BOUNDS, () -> on.zoo.move(4, cage));
        }
        on.nothingWasChanged("move, cages");
        RuleZoo zoo = scene();
        zoo.free(1);
        zoo.free(4);
        Check.is("move to 0", 3, zoo.move(5, 0));
        Check.is("move to 19", 0, zoo.move(5, 19));
        Check.is("move to 3", 19, zoo.move(5, 3));
    }

    /** "Throws IllegalStateException if it is gone .." */
    private static void moveMindsThatItIsGone() {
        RefusedCallsTest on = new RefusedCallsTest();
        for (int rule : GONE) {
            on.refuses("move the gone " + rule, Check.STATE, () -> on.zoo.move(rule, 7));
            on.refuses("move the gone " + rule + " to a rule", Check.STATE, () -> on.zoo.move(rule, 0));
        }
        on.refuses("move one that starved to its cage", Check.STATE, () -> on.zoo.move(0, 5));
        on.nothingWasChanged("move, gone");
    }

    /** ".. or there is a rule in the cage .." */
    private static void moveMindsARuleInTheCage() {
        RefusedCallsTest on = new RefusedCallsTest();
        on.refuses("move 1 to 5's cage", Check.STATE, () -> on.zoo.move(1, 3));
        on.refuses("move 1 to 4's cage", Check.STATE, () -> on.zoo.move(1, 19));
        on.refuses("move 5 to 1's cage", Check.STATE, () -> on.zoo.move(5, 0));
        on.nothingWasChanged("move to a rule");
        RuleZoo zoo = scene();
        Check.is("move to the cage of one that starved", 3, zoo.move(5, 5));
        Check.is("move to the cage of one that was eaten", 5, zoo.move(5, 1));
        Check.is("move to the cage of one that was let out", 1, zoo.move(5, 10));
        Check.is("move to the cage where another one was", 19, zoo.move(4, 3));
    }

    /** ".. (also this one)" */
    private static void moveMindsItsOwnCage() {
        RefusedCallsTest on = new RefusedCallsTest();
        on.refuses("move 1 to its cage", Check.STATE, () -> on.zoo.move(1, 0));
        on.refuses("move 4 to its cage", Check.STATE, () -> on.zoo.move(4, 19));
        on.refuses("move 5 to its cage", Check.STATE, () -> on.zoo.move(5, 3));
        on.nothingWasChanged("move to its own cage");
        RuleZoo alone = new RuleZoo();
        alone.come(8, 0, 1);
        Check.refuses(alone, "move, alone, to its cage", Check.STATE, () -> alone.move(0, 8));
        Check.is("its cage has it", 0, alone.cage(8));
    }

    /** "If several exceptions apply, the one that is named first is thrown." */
    private static void moveThrowsTheFirstNamed() {
        RefusedCallsTest on = new RefusedCallsTest();
        for (int cage : NO_CAGES) {
            on.refuses("move no rule to " + cage, Check.BOUNDS, () -> on.zoo.move(6, cage));
            on.refuses("move a gone one to " + cage, Check.BOUNDS, () -> on.zoo.move(3, cage));
        }
        on.refuses("move no rule to a rule", Check.BOUNDS, () -> on.zoo.move(6, 0));
        on.nothingWasChanged("move, several");
    }

    // ---- feed

    /** "Throws IndexOutOfBoundsException if there is no such rule" */
    private static void feedMindsTheRule() {
        RefusedCallsTest on = new RefusedCallsTest();
        for (int rule : NO_RULES) {
            on.refuses("feed " + rule, Check.BOUNDS, () -> on.zoo.feed(rule));
        }
        on.nothingWasChanged("feed, rules");
        Check.is("feed the last one", 0, scene().feed(5));
    }

    /** "Throws IllegalStateException if it is gone" */
    private static void feedMindsThatItIsGone() {
        RefusedCallsTest on = new RefusedCallsTest();
        for (int rule : GONE) {
            on.refuses("feed the gone " + rule, Check.STATE, () -> on.zoo.feed(rule));
        }
        Check.is("the hunger of one that starved", 10, on.zoo.rule(0, 3));
        on.nothingWasChanged("feed, gone");
    }

    // ---- alter

    /** "Throws IndexOutOfBoundsException if there is no such rule" */
    private static void alterMindsTheRule() {
        RefusedCallsTest on = new RefusedCallsTest();
        for (int rule : NO_RULES) {
            on.refuses("alter " + rule, Check.BOUNDS, () -> on.zoo.alter(rule, 3));
        }
        on.nothingWasChanged("alter, rules");
        Check.is("alter the last one", 2, scene().alter(5, 3));
    }

    /** "Throws IllegalArgumentException if number is not 1 to 15" */
    private static void alterMindsTheNumber() {
        RefusedCallsTest on = new RefusedCallsTest();
        for (int number : NO_NUMBERS) {
            on.refuses("alter 1 to " + number, Check.ARGUMENT, () -> on.zoo.alter(1, number));
            on.refuses("alter 5 to " + number, Check.ARGUMENT, () -> on.zoo.alter(5, number));
        }
        on.nothingWasChanged("alter, numbers");
        RuleZoo zoo = scene();
        Check.is("alter to 1", 9, zoo.alter(1, 1));
        Check.is("alter to 15", 1, zoo.alter(1, 15));
        Check.is("alter to 15 again", 15, zoo.alter(1, 15));
    }

    /** "Throws IllegalStateException if it is gone" */
    private static void alterMindsThatItIsGone() {
        RefusedCallsTest on = new RefusedCallsTest();
        for (int rule : GONE) {
            on.refuses("alter the gone " + rule, Check.STATE, () -> on.zoo.alter(rule, 3));
            on.refuses("alter the gone " + rule + " to 1", Check.STATE, () -> on.zoo.alter(rule, 1));
            on.refuses("alter the gone " + rule + " to 15", Check.STATE, () -> on.zoo.alter(rule, 15));
        }
        on.nothingWasChanged("alter, gone");
    }

    /** "If several exceptions apply, the one that is named first is thrown." */
    private static void alterThrowsTheFirstNamed() {
        RefusedCallsTest on = new RefusedCallsTest();
        for (int number : NO_NUMBERS) {
            on.refuses("alter no rule to " + number, Check.BOUNDS, () -> on.zoo.alter(6, number));
            on.refuses("alter a gone one to " + number, Check.ARGUMENT, () -> on.zoo.alter(2, number));
        }
        on.nothingWasChanged("alter, several");
    }

    // ---- free

    /** "Throws IndexOutOfBoundsException if there is no such rule" */
    private static void freeMindsTheRule() {
        RefusedCallsTest on = new RefusedCallsTest();
        for (int rule : NO_RULES) {
            on.refuses("free " + rule, Check.BOUNDS, () -> on.zoo.free(rule));
        }
        on.nothingWasChanged("free, rules");
        Check.is("free the last one", 0, scene().free(5));
    }

    /** "Throws IllegalStateException if it is gone" */
    private static void freeMindsThatItIsGone() {
        RefusedCallsTest on = new RefusedCallsTest();
        for (int rule : GONE) {
            on.refuses("free the gone " + rule, Check.STATE, () -> on.zoo.free(rule));
        }
        Check.is("one was let out", 1, on.zoo.count(5));
        on.nothingWasChanged("free, gone");
    }

    // ---- what is there

    /** "Throws IndexOutOfBoundsException if there is no such rule .." */
    private static void ruleMindsTheRule() {
        RefusedCallsTest on = new RefusedCallsTest();
        for (int rule : NO_RULES) {
            on.refuses("rule(" + rule + ", 0)", Check.BOUNDS, () -> on.zoo.rule(rule, 0));
            on.refuses("rule(" + rule + ", 11)", Check.BOUNDS, () -> on.zoo.rule(rule, 11));
            on.refuses("rule(" + rule + ", 12)", Check.BOUNDS, () -> on.zoo.rule(rule, 12));
        }
        on.nothingWasChanged("rule, rules");
        Check.is("rule(5, 0)", 4, scene().rule(5, 0));
        Check.is("rule(0, 0), gone", 0, scene().rule(0, 0));
    }

    /** ".. or what is not 0 to 11" */
    private static void ruleMindsWhatIsAsked() {
        RefusedCallsTest on = new RefusedCallsTest();
        for (int what : new int[] {-1, 12, LEAST, GREATEST}) {
            on.refuses("rule(1, " + what + ")", Check.BOUNDS, () -> on.zoo.rule(1, what));
            on.refuses("rule(2, " + what + "), gone", Check.BOUNDS, () -> on.zoo.rule(2, what));
        }
        on.nothingWasChanged("rule, what");
        Check.is("rule(1, 0)", 1, scene().rule(1, 0));
        Check.is("rule(2, 11)", 1, scene().rule(2, 11));
    }

    /** "Throws IndexOutOfBoundsException if cage is not 0 to 19" */
    private static void cageMindsTheCage() {
        RefusedCallsTest on = new RefusedCallsTest();
        for (int cage : NO_CAGES) {
            on.refuses("cage(" + cage + ")", Check.BOUNDS, () -> on.zoo.cage(cage));
        }
        on.nothingWasChanged("cage");
        Check.is("cage(0)", 1, scene().cage(0));
        Check.is("cage(19)", 4, scene().cage(19));
    }

    /** "Throws IndexOutOfBoundsException if what is not 0 to 8" */
    private static void countMindsWhatIsAsked() {
        RefusedCallsTest on = new RefusedCallsTest();
        for (int what : new int[] {-1, 9, LEAST, GREATEST}) {
            on.refuses("count(" + what + ")", Check.BOUNDS, () -> on.zoo.count(what));
        }
        on.nothingWasChanged("count");
        Check.is("count(0)", 10, scene().count(0));
        Check.is("count(8)", 3, scene().count(8));
    }

    /** "Throws IndexOutOfBoundsException if there is no such rule" */
    private static void mayMindsBothRules() {
        RefusedCallsTest on = new RefusedCallsTest();
        for (int rule : NO_RULES) {
            on.refuses("may " + rule + " eat 1", Check.BOUNDS, () -> on.zoo.may(rule, 1) ? 1 : 0);
            on.refuses("may 1 eat " + rule, Check.BOUNDS, () -> on.zoo.may(1, rule) ? 1 : 0);
            on.refuses("may a gone one eat " + rule, Check.BOUNDS, () -> on.zoo.may(0, rule) ? 1 : 0);
            on.refuses("may " + rule + " eat a gone one", Check.BOUNDS, () -> on.zoo.may(rule, 0) ? 1 : 0);
            on.refuses("may " + rule + " eat itself", Check.BOUNDS, () -> on.zoo.may(rule, rule) ? 1 : 0);
        }
        on.nothingWasChanged("may");
        Check.isTrue("may 1 eat 5", scene().may(1, 5));
        Check.isFalse("may 5 eat 0, gone", scene().may(5, 0));
    }

    /** "Throws IndexOutOfBoundsException if there is no such rule" */
    private static void preyMindsTheRule() {
        RefusedCallsTest on = new RefusedCallsTest();
        for (int rule : NO_RULES) {
            on.refuses("prey(" + rule + ")", Check.BOUNDS, () -> on.zoo.prey(rule));
        }
        on.nothingWasChanged("prey");
        Check.is("prey(5)", -1, scene().prey(5));
        Check.is("prey(1)", 4, scene().prey(1));
    }

    /** "Throws IndexOutOfBoundsException if there is no such rule" */
    private static void huntersMindsTheRule() {
        RefusedCallsTest on = new RefusedCallsTest();
        for (int rule : NO_RULES) {
            on.refuses("hunters(" + rule + ")", Check.BOUNDS, () -> on.zoo.hunters(rule));
        }
        on.nothingWasChanged("hunters");
        Check.is("hunters(5)", 0, scene().hunters(5));
        Check.is("hunters(4)", 1, scene().hunters(4));
    }

    /** "Throws IndexOutOfBoundsException if there is no such rule" */
    private static void chainMindsTheRule() {
        RefusedCallsTest on = new RefusedCallsTest();
        for (int rule : NO_RULES) {
            on.refuses("chain(" + rule + ")", Check.BOUNDS, () -> on.zoo.chain(rule));
        }
        on.nothingWasChanged("chain");
        Check.is("chain(5)", 1, scene().chain(5));
        Check.is("chain(0), gone", 0, scene().chain(0));
    }

    // ---- days and looking ahead

    /** "Throws IllegalArgumentException if days is not 1 to 50" */
    private static void passMindsTheDays() {
        RefusedCallsTest on = new RefusedCallsTest();
        for (int days : NO_DAYS) {
            on.refuses("pass(" + days + ")", Check.ARGUMENT, () -> on.zoo.pass(days));
        }
        on.nothingWasChanged("pass");
        RuleZoo zoo = scene();
        zoo.pass(1);
        Check.is("the day behind pass(1)", 11, zoo.count(0));
        zoo.pass(50);
        Check.is("the day behind pass(50)", 61, zoo.count(0));
    }

    /** "Throws IllegalArgumentException if days is not 1 to 50" */
    private static void foreseeMindsTheDays() {
        RefusedCallsTest on = new RefusedCallsTest();
        for (int days : NO_DAYS) {
            for (int what = 0; what < 4; what++) {
                int asked = what;
                on.refuses("foresee(" + days + ", " + what + ")", Check.ARGUMENT, () -> on.zoo.foresee(days, asked));
            }
        }
        on.nothingWasChanged("foresee, days");
        Check.is("foresee(1, 1)", 2, scene().foresee(1, 1));
        Check.is("foresee(50, 0)", 0, scene().foresee(50, 0));
    }

    /** "Throws IndexOutOfBoundsException if what is not 0 to 3" */
    private static void foreseeMindsWhatIsAsked() {
        RefusedCallsTest on = new RefusedCallsTest();
        for (int what : new int[] {-1, 4, LEAST, GREATEST}) {
            on.refuses("foresee(1, " + what + ")", Check.BOUNDS, () -> on.zoo.foresee(1, what));
            on.refuses("foresee(50, " + what + ")", Check.BOUNDS, () -> on.zoo.foresee(50, what));
        }
        on.nothingWasChanged("foresee, what");
        Check.is("foresee(1, 0)", 3, scene().foresee(1, 0));
        Check.is("foresee(1, 3)", 1, scene().foresee(1, 3));
    }

    /** "If several exceptions apply, the one that is named first is thrown." */
    private static void foreseeThrowsTheFirstNamed() {
        RefusedCallsTest on = new RefusedCallsTest();
        for (int days : NO_DAYS) {
            on.refuses("foresee(" + days + ", -1)", Check.ARGUMENT, () -> on.zoo.foresee(days, -1));
            on.refuses("foresee(" + days + ", 4)", Check.ARGUMENT, () -> on.zoo.foresee(days, 4));
        }
        on.nothingWasChanged("foresee, several");
    }

    /** "Throws IndexOutOfBoundsException if there is no such rule" */
    private static void livesMindsTheRule() {
        RefusedCallsTest on = new RefusedCallsTest();
        for (int rule : NO_RULES) {
            on.refuses("lives(" + rule + ")", Check.BOUNDS, () -> on.zoo.lives(rule));
        }
        on.nothingWasChanged("lives");
        Check.is("lives(4)", 1, scene().lives(4));
        Check.is("lives(0), gone", 0, scene().lives(0));
    }

    /** "Throws IndexOutOfBoundsException if there is no such rule" */
    private static void adviseMindsTheRule() {
        RefusedCallsTest on = new RefusedCallsTest();
        for (int rule : NO_RULES) {
            on.refuses("advise(" + rule + ")", Check.BOUNDS, () -> on.zoo.advise(rule));
        }
        on.nothingWasChanged("advise");
        Check.is("advise(0), gone", -1, scene().advise(0));
        Check.is("advise(3), gone", -1, scene().advise(3));
    }

    // ---- no such rule

    /** "there is no such rule": in an empty zoo not even 0. */
    private static void anEmptyZooHasNoRule() {
        RuleZoo zoo = new RuleZoo();
        refusesRule(zoo, 0);
        refusesRule(zoo, -1);
        Check.same("an empty zoo", new RuleZoo(), zoo);
    }

    /** "there is no such rule": with 60 the last one is 59. */
    private static void theLastOfSixtyIsARule() {
        RuleZoo zoo = breederBehind(57);
        Check.is("rules in all", 60, zoo.count(2));
        refusesRule(zoo, 60);
        Check.is("rule(59, 8)", 3, zoo.rule(59, 8));
        Check.is("move(59, 2)", 3, zoo.move(59, 2));
        Check.is("feed(59)", 0, zoo.feed(59));
        Check.is("alter(59, 10)", 11, zoo.alter(59, 10));
        Check.isTrue("may(57, 59)", zoo.may(57, 59));
        Check.is("prey(59)", -1, zoo.prey(59));
        Check.is("hunters(59)", 0, zoo.hunters(59));
        Check.is("chain(59)", 1, zoo.chain(59));
        Check.is("lives(59)", 2, zoo.lives(59));
        Check.is("advise(59)", 0, zoo.advise(59));
        Check.is("free(59)", 0, zoo.free(59));
    }

    /** "A method that throws an exception changes nothing": also not what an offspring will take from the latest meal. */
    private static void anOffspringThatIsDueIsBornAlike() {
        RuleZoo zoo = EdgesOfTermsTest.blocked(2);
        int gone = zoo.count(2) - 1;
        while (zoo.rule(gone, 9) == 0) {
            gone--;
        }
        int away = gone;
        Check.is("in store", 2, zoo.rule(1, 5));
        Check.refuses(zoo, "come to the one with a store", Check.STATE, () -> zoo.come(10, 0, 1));
        Check.refuses(zoo, "come as no kind", Check.ARGUMENT, () -> zoo.come(6, 6, 1));
        Check.refuses(zoo, "come with no number", Check.ARGUMENT, () -> zoo.come(6, 0, 16));
        Check.refuses(zoo, "come to no cage", Check.BOUNDS, () -> zoo.come(20, 0, 1));
        Check.refuses(zoo, "move it to its cage", Check.STATE, () -> zoo.move(1, 10));
        Check.refuses(zoo, "move it to another one", Check.STATE, () -> zoo.move(1, 9));
        Check.refuses(zoo, "move another one to it", Check.STATE, () -> zoo.move(0, 10));
        Check.refuses(zoo, "move it to no cage", Check.BOUNDS, () -> zoo.move(1, 20));
        Check.refuses(zoo, "move one that is gone", Check.STATE, () -> zoo.move(away, 6));
        Check.refuses(zoo, "feed one that is gone", Check.STATE, () -> zoo.feed(away));
        Check.refuses(zoo, "alter it to no number", Check.ARGUMENT, () -> zoo.alter(1, 16));
        Check.refuses(zoo, "alter one that is gone", Check.STATE, () -> zoo.alter(away, 1));
        Check.refuses(zoo, "free one that is gone", Check.STATE, () -> zoo.free(away));
        Check.refuses(zoo, "let no days go by", Check.ARGUMENT, () -> zoo.pass(0));
        Check.refuses(zoo, "foresee no days", Check.ARGUMENT, () -> zoo.foresee(0, 0));
        refusesRule(zoo, zoo.count(2));
        zoo.free(zoo.cage(11));
        RuleZoo never = EdgesOfTermsTest.blocked(2);
        never.free(never.cage(11));
        Check.same("an offspring that is due", never, zoo);
        Check.is("it was born", 1, zoo.rule(1, 10));
    }

    private static void refusesRule(RuleZoo zoo, int rule) {
        Check.refuses(zoo, "move " + rule, Check.BOUNDS, () -> zoo.move(rule, 7));
        Check.refuses(zoo, "feed " + rule, Check.BOUNDS, () -> zoo.feed(rule));
        Check.refuses(zoo, "alter " + rule, Check.BOUNDS, () -> zoo.alter(rule, 7));
        Check.refuses(zoo, "free " + rule, Check.BOUNDS, () -> zoo.free(rule));
        Check.refuses(zoo, "rule " + rule, Check.BOUNDS, () -> zoo.rule(rule, 0));
        Check.refuses(zoo, "may " + rule, Check.BOUNDS, () -> zoo.may(rule, rule) ? 1 : 0);
        Check.refuses(zoo, "prey " + rule, Check.BOUNDS, () -> zoo.prey(rule));
        Check.refuses(zoo, "hunters " + rule, Check.BOUNDS, () -> zoo.hunters(rule));
        Check.refuses(zoo, "chain " + rule, Check.BOUNDS, () -> zoo.chain(rule));
        Check.refuses(zoo, "lives " + rule, Check.BOUNDS, () -> zoo.lives(rule));
        Check.refuses(zoo, "advise " + rule, Check.BOUNDS, () -> zoo.advise(rule));
    }
}
