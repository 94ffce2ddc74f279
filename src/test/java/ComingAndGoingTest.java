/** Promises 1 to 6: a new object, come, move, feed, alter, free. */
public final class ComingAndGoingTest {
    public static void main(String[] args) {
        aNewZooIsEmpty();
        comeTellsAndKeeps();
        moveTellsAndMoves();
        feedTellsAndFeeds();
        alterTellsAndAlters();
        freeTellsAndLetsOut();
        Check.end();
    }

    private static void aNewZooIsEmpty() {
        RuleZoo zoo = new RuleZoo();
        for (int what = 0; what < 9; what++) {
            Check.is("new, count(" + what + ")", what == 7 ? 20 : 0, zoo.count(what));
        }
        for (int cage = 0; cage < 20; cage++) {
            Check.is("new, cage(" + cage + ")", -1, zoo.cage(cage));
        }
        Check.isText("new, rule(0, 0)", Check.BOUNDS, Check.outcome(() -> zoo.rule(0, 0)));
    }

    private static void comeTellsAndKeeps() {
        RuleZoo zoo = new RuleZoo();
        Check.is("come(19, 5, 15)", 0, zoo.come(19, 5, 15));
        Check.is("come(0, 0, 1)", 1, zoo.come(0, 0, 1));
        int[] first = {5, 15, 95, 0, 0, 0, 0, -1, 19, 0, 0, -1};
        int[] second = {0, 1, 1, 0, 0, 0, 0, -1, 0, 0, 0, -1};
        for (int what = 0; what < 12; what++) {
            Check.is("rule(0, " + what + ")", first[what], zoo.rule(0, what));
            Check.is("rule(1, " + what + ")", second[what], zoo.rule(1, what));
        }
        Check.is("cage(19)", 0, zoo.cage(19));
        Check.is("cage(0)", 1, zoo.cage(0));
        Check.is("none was born", 0, zoo.count(6));
    }

    private static void moveTellsAndMoves() {
        RuleZoo zoo = new RuleZoo();
        zoo.come(2, 1, 9);
        zoo.come(0, 1, 8);
        Check.is("move(0, 19)", 2, zoo.move(0, 19));
        Check.is("cage(2)", -1, zoo.cage(2));
        Check.is("cage(19)", 0, zoo.cage(19));
        Check.is("rule(0, 8)", 19, zoo.rule(0, 8));
        Check.is("move(0, 2)", 19, zoo.move(0, 2));
        Check.is("cage(2)", 0, zoo.cage(2));
        Check.is("free cages", 18, zoo.count(7));
        Check.is("the day", 0, zoo.count(0));
    }

    private static void feedTellsAndFeeds() {
        RuleZoo zoo = new RuleZoo();
        zoo.come(0, 0, 15);
        Check.is("feed one without hunger", 0, zoo.feed(0));
        zoo.pass(9);
        Check.is("feed(0)", 9, zoo.feed(0));
        int[] due = {0, 15, 15, 0, 9, 0, 0, -1, 0, 0, 0, -1};
        for (int what = 0; what < 12; what++) {
            Check.is("fed, rule(0, " + what + ")", due[what], zoo.rule(0, what));
        }
        Check.is("nine days more", 0, zoo.pass(9));
        Check.is("and the tenth", 1, zoo.pass(1));
    }

    private static void alterTellsAndAlters() {
        RuleZoo zoo = new RuleZoo();
        zoo.come(0, 1, 4);
        zoo.come(1, 5, 4);
        Check.isFalse("4 is not less than 4", zoo.may(0, 1));
        Check.is("alter(0, 5)", 4, zoo.alter(0, 5));
        Check.isTrue("4 is less than 5", zoo.may(0, 1));
        Check.is("code", 21, zoo.rule(0, 2));
        Check.is("alter(0, 15)", 5, zoo.alter(0, 15));
        Check.is("alter(0, 1)", 15, zoo.alter(0, 1));
        Check.is("alter(0, 1) again", 1, zoo.alter(0, 1));
        Check.is("its number", 1, zoo.rule(0, 1));
        Check.is("its kind", 1, zoo.rule(0, 0));
    }

    private static void freeTellsAndLetsOut() {
        RuleZoo zoo = new RuleZoo();
        zoo.come(6, 2, 15);
        zoo.pass(3);
        Check.is("free(0)", 3, zoo.free(0));
        int[] due = {2, 15, 47, 3, 3, 0, 0, -1, -1, 3, 0, -1};
        for (int what = 0; what < 12; what++) {
            Check.is("let out, rule(0, " + what + ")", due[what], zoo.rule(0, what));
        }
        Check.is("its cage", -1, zoo.cage(6));
        Check.is("let out", 1, zoo.count(5));
        Check.is("there", 0, zoo.count(1));
        Check.is("the next one to this cage", 1, zoo.come(6, 0, 1));
    }
}
