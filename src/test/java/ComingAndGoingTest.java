/** Promises 1 to 6: a new object, come, move, feed, alter, free. */
public final class ComingAndGoingTest {
    public static void main(String[] args) {
        aNewZooIsEmpty();
        comeTellsAndKeeps();
        comeRefuses();
        comeRefusesThe61st();
        moveTellsAndMoves();
        moveRefuses();
        feedTellsAndFeeds();
        feedRefuses();
        alterTellsAndAlters();
        alterRefuses();
        freeTellsAndLetsOut();
        freeRefuses();
        Check.end();
    }

    private static void aNewZooIsEmpty() {
        RuleZoo zoo = new RuleZoo();
        for (int what = 0; what < 9; what++) {
            Check.is("new, count(" + what + ")", what == 7 ? 20 : 0, zoo.count(what));
        }
        for (int cage = 0; cage < 20; cage++) {
            Check.is("new, cage(" + cage + ")", -1, zoo.cage(cage));
        }
        Check.isText("new, rule(0, 0)", Check.BOUNDS, Check.outcome(() -> zoo.rule(0, 0)));
    }

    private static void comeTellsAndKeeps() {
        RuleZoo zoo = new RuleZoo();
        Check.is("come(19, 5, 15)", 0, zoo.come(19, 5, 15));
        Check.is("come(0, 0, 1)", 1, zoo.come(0, 0, 1));
        int[] first = {5, 15, 95, 0, 0, 0, 0, -1, 19, 0, 0, -1};
        int[] second = {0, 1, 1, 0, 0, 0, 0, -1, 0, 0, 0, -1};
        for (int what = 0; what < 12; what++) {
            Check.is("rule(0, " + what + ")", first[what], zoo.rule(0, what));
            Check.is("rule(1, " + what + ")", second[what], zoo.rule(1, what));
        }
        Check.is("cage(19)", 0, zoo.cage(19));
        Check.is("cage(0)", 1, zoo.cage(0));
        Check.is("none was born", 0, zoo.count(6));
    }

    private static void comeRefuses() {
        RuleZoo zoo = new RuleZoo();
        zoo.come(3, 0, 2);
        for (int cage : new int[] {-1, 20, Integer.MIN_VALUE, Integer.MAX_VALUE}) {
            Check.refuses(zoo, "come to a cage " + cage, Check.BOUNDS, () -> zoo.come(cage, 0, 1));
            Check.refuses(zoo, "come, all wrong", Check.BOUNDS, () -> zoo.come(cage, 6, 0));
        }
        for (int kind : new int[] {-1, 6, Integer.MIN_VALUE, Integer.MAX_VALUE}) {
            Check.refuses(zoo, "come with a kind " + kind, Check.ARGUMENT, () -> zoo.come(0, kind, 1));
            Check.refuses(zoo, "come with a kind " + kind + " to 3", Check.ARGUMENT, () -> zoo.come(3, kind, 1));
        }
        for (int number : new int[] {0, -1, 16, Integer.MIN_VALUE, Integer.MAX_VALUE}) {
            Check.refuses(zoo, "come with a number " + number, Check.ARGUMENT, () -> zoo.come(0, 0, number));
            Check.refuses(zoo, "come with a number " + number + " to 3", Check.ARGUMENT, () -> zoo.come(3, 0, number));
        }
        Check.refuses(zoo, "come to a rule", Check.STATE, () -> zoo.come(3, 0, 1));
        Check.is("the next that comes", 1, zoo.come(4, 0, 1));
    }

    private static void comeRefusesThe61st() {
        RuleZoo zoo = new RuleZoo();
        for (int rule = 0; rule < 60; rule++) {
            Check.is("come as the next", rule, zoo.come(7, rule % 6, rule % 15 + 1));
            Check.is("free(" + rule + ")", 0, zoo.free(rule));
        }
        Check.refuses(zoo, "come as the 61st", Check.STATE, () -> zoo.come(7, 0, 1));
        Check.refuses(zoo, "come as the 61st with a wrong number", Check.ARGUMENT, () -> zoo.come(7, 0, 16));
        Check.is("rules in all", 60, zoo.count(2));
        Check.is("rule(59, 9)", 3, zoo.rule(59, 9));
    }

    private static void moveTellsAndMoves() {
        RuleZoo zoo = new RuleZoo();
        zoo.come(2, 1, 9);
        zoo.come(0, 1, 8);
        Check.is("move(0, 19)", 2, zoo.move(0, 19));
        Check.is("cage(2)", -1, zoo.cage(2));
        Check.is("cage(19)", 0, zoo.cage(19));
        Check.is("rule(0, 8)", 19, zoo.rule(0, 8));
        Check.is("move(0, 2)", 19, zoo.move(0, 2));
        Check.is("cage(2)", 0, zoo.cage(2));
        Check.is("free cages", 18, zoo.count(7));
        Check.is("the day", 0, zoo.count(0));
    }

    private static void moveRefuses() {
        RuleZoo zoo = new RuleZoo();
        zoo.come(2, 1, 9);
        zoo.come(3, 1, 8);
        zoo.come(4, 1, 7);
        zoo.free(2);
        for (int rule : new int[] {-1, 3, 60, Integer.MIN_VALUE, Integer.MAX_VALUE}) {
            Check.refuses(zoo, "move " + rule, Check.BOUNDS, () -> zoo.move(rule, 5));
        }
        for (int cage : new int[] {-1, 20, Integer.MIN_VALUE, Integer.MAX_VALUE}) {
            Check.refuses(zoo, "move to " + cage, Check.BOUNDS, () -> zoo.move(0, cage));
            Check.refuses(zoo, "move one that is gone to " + cage, Check.BOUNDS, () -> zoo.move(2, cage));
        }
        Check.refuses(zoo, "move to another one", Check.STATE, () -> zoo.move(0, 3));
        Check.refuses(zoo, "move to its own cage", Check.STATE, () -> zoo.move(0, 2));
        Check.refuses(zoo, "move one that is gone", Check.STATE, () -> zoo.move(2, 5));
    }

    private static void feedTellsAndFeeds() {
        RuleZoo zoo = new RuleZoo();
        zoo.come(0, 0, 15);
        Check.is("feed one without hunger", 0, zoo.feed(0));
        zoo.pass(9);
        Check.is("feed(0)", 9, zoo.feed(0));
        int[] due = {0, 15, 15, 0, 9, 0, 0, -1, 0, 0, 0, -1};
        for (int what = 0; what < 12; what++) {
            Check.is("fed, rule(0, " + what + ")", due[what], zoo.rule(0, what));
        }
        Check.is("nine days more", 0, zoo.pass(9));
        Check.is("and the tenth", 1, zoo.pass(1));
    }

    private static void feedRefuses() {
        RuleZoo zoo = new RuleZoo();
        zoo.come(0, 0, 15);
        zoo.pass(10);
        for (int rule : new int[] {-1, 1, 60, Integer.MIN_VALUE, Integer.MAX_VALUE}) {
            Check.refuses(zoo, "feed " + rule, Check.BOUNDS, () -> zoo.feed(rule));
        }
        Check.refuses(zoo, "feed one that is gone", Check.STATE, () -> zoo.feed(0));
        Check.is("it had starved", 10, zoo.rule(0, 3));
    }

    private static void alterTellsAndAlters() {
        RuleZoo zoo = new RuleZoo();
        zoo.come(0, 1, 4);
        zoo.come(1, 5, 4);
        Check.isFalse("4 is not less than 4", zoo.may(0, 1));
        Check.is("alter(0, 5)", 4, zoo.alter(0, 5));
        Check.isTrue("4 is less than 5", zoo.may(0, 1));
        Check.is("code", 21, zoo.rule(0, 2));
        Check.is("alter(0, 15)", 5, zoo.alter(0, 15));
        Check.is("alter(0, 1)", 15, zoo.alter(0, 1));
        Check.is("alter(0, 1) again", 1, zoo.alter(0, 1));
        Check.is("its number", 1, zoo.rule(0, 1));
        Check.is("its kind", 1, zoo.rule(0, 0));
    }

    private static void alterRefuses() {
        RuleZoo zoo = new RuleZoo();
        zoo.come(0, 1, 4);
        zoo.come(1, 5, 4);
        zoo.free(1);
        for (int rule : new int[] {-1, 2, 60, Integer.MIN_VALUE, Integer.MAX_VALUE}) {
            Check.refuses(zoo, "alter " + rule, Check.BOUNDS, () -> zoo.alter(rule, 3));
            Check.refuses(zoo, "alter " + rule + " wrongly", Check.BOUNDS, () -> zoo.alter(rule, 0));
        }
        for (int number : new int[] {0, -1, 16, Integer.MIN_VALUE, Integer.MAX_VALUE}) {
            Check.refuses(zoo, "alter to " + number, Check.ARGUMENT, () -> zoo.alter(0, number));
            Check.refuses(zoo, "alter one that is gone to " + number, Check.ARGUMENT, () -> zoo.alter(1, number));
        }
        Check.refuses(zoo, "alter one that is gone", Check.STATE, () -> zoo.alter(1, 3));
    }

    private static void freeTellsAndLetsOut() {
        RuleZoo zoo = new RuleZoo();
        zoo.come(6, 2, 15);
        zoo.pass(3);
        Check.is("free(0)", 3, zoo.free(0));
        int[] due = {2, 15, 47, 3, 3, 0, 0, -1, -1, 3, 0, -1};
        for (int what = 0; what < 12; what++) {
            Check.is("let out, rule(0, " + what + ")", due[what], zoo.rule(0, what));
        }
        Check.is("its cage", -1, zoo.cage(6));
        Check.is("let out", 1, zoo.count(5));
        Check.is("there", 0, zoo.count(1));
        Check.is("the next one to this cage", 1, zoo.come(6, 0, 1));
    }

    private static void freeRefuses() {
        RuleZoo zoo = new RuleZoo();
        zoo.come(6, 2, 15);
        zoo.free(0);
        for (int rule : new int[] {-1, 1, 60, Integer.MIN_VALUE, Integer.MAX_VALUE}) {
            Check.refuses(zoo, "free " + rule, Check.BOUNDS, () -> zoo.free(rule));
        }
        Check.refuses(zoo, "free one that is gone", Check.STATE, () -> zoo.free(0));
    }
}
