/** Promises 7 to 13: rule, cage, count, may, prey, hunters, chain. */
public final class WhatIsThereTest {
    public static void main(String[] args) {
        ruleTellsEachThing();
        ruleTellsOfThoseThatAreGone();
        cageTells();
        countTells();
        mayByKind();
        mayByHungerAndAge();
        mayNotTheParentNorTheChild();
        mayNeedsBothThere();
        preyGoesByTheOrderAround();
        preyGoesRoundTheRing();
        huntersAreCounted();
        chainEndsBehindOneWithoutPrey();
        chainEndsWhereItBitesItself();
        Check.end();
    }

    /** 0 and 1 are there, 2 was let out. */
    private static RuleZoo three() {
        RuleZoo zoo = new RuleZoo();
        zoo.come(0, 1, 9);
        zoo.come(1, 2, 4);
        zoo.come(2, 0, 1);
        zoo.free(2);
        return zoo;
    }

    private static void rows(String when, RuleZoo zoo, int rule, int... due) {
        for (int what = 0; what < 12; what++) {
            int asked = what;
            Check.tells(zoo, when + ", rule(" + rule + ", " + what + ")", due[what], () -> zoo.rule(rule, asked));
        }
    }

    private static void ruleTellsEachThing() {
        RuleZoo zoo = new RuleZoo();
        zoo.come(5, 1, 12);
        zoo.come(6, 2, 14);
        zoo.alter(1, 3);
        zoo.come(4, 3, 11);
        zoo.pass(1);
        rows("one meal", zoo, 0, 1, 12, 28, 0, 1, 1, 1, -1, 5, 0, 0, -1);
        zoo.pass(1);
        rows("two meals", zoo, 0, 1, 12, 28, 0, 2, 0, 2, -1, 5, 0, 1, -1);
        rows("the offspring", zoo, 3, 1, 9, 25, 0, 0, 0, 0, 0, 6, 0, 0, -1);
    }

    private static void ruleTellsOfThoseThatAreGone() {
        RuleZoo zoo = new RuleZoo();
        zoo.come(5, 1, 12);
        zoo.come(6, 4, 9);
        zoo.come(15, 3, 5);
        zoo.pass(1);
        rows("eaten", zoo, 1, 4, 9, 73, 0, 0, 0, 0, -1, -1, 1, 0, 0);
        zoo.pass(9);
        rows("starved", zoo, 2, 3, 5, 53, 10, 9, 0, 0, -1, -1, 2, 0, -1);
        rows("hungry", zoo, 0, 1, 12, 28, 9, 10, 1, 1, -1, 5, 0, 0, -1);
        zoo.free(0);
        rows("let out", zoo, 0, 1, 12, 28, 9, 10, 1, 1, -1, -1, 3, 0, -1);
        zoo.pass(3);
        rows("let out long ago", zoo, 0, 1, 12, 28, 9, 10, 1, 1, -1, -1, 3, 0, -1);
    }

    private static void cageTells() {
        RuleZoo zoo = three();
        zoo.come(19, 0, 1);
        for (int cage = 0; cage < 20; cage++) {
            int asked = cage;
            int due = cage == 0 ? 0 : cage == 1 ? 1 : cage == 19 ? 3 : -1;
            Check.tells(zoo, "cage(" + cage + ")", due, () -> zoo.cage(asked));
        }
    }

    private static void counts(String when, RuleZoo zoo, int... due) {
        for (int what = 0; what < 9; what++) {
            int asked = what;
            Check.tells(zoo, when + ", count(" + what + ")", due[what], () -> zoo.count(asked));
        }
    }

    private static void countTells() {
        RuleZoo zoo = new RuleZoo();
        zoo.come(5, 1, 12);
        zoo.come(6, 1, 3);
        zoo.come(4, 3, 11);
        zoo.come(12, 5, 15);
        zoo.come(17, 5, 15);
        counts("all there", zoo, 0, 5, 5, 0, 0, 0, 0, 15, 3);
        zoo.free(4);
        counts("one let out", zoo, 0, 4, 5, 0, 0, 1, 0, 16, 3);
        zoo.pass(2);
        counts("two eaten, one born", zoo, 2, 3, 6, 2, 0, 1, 1, 17, 2);
        zoo.pass(8);
        counts("one starved", zoo, 10, 2, 6, 2, 1, 1, 1, 18, 1);
        zoo.pass(50);
        counts("all gone", zoo, 60, 0, 6, 2, 3, 1, 1, 20, 0);
    }

    /** Whether a rule of this kind and number may eat one of the other kind and number. */
    private static boolean may(int kind, int number, int otherKind, int otherNumber) {
        RuleZoo zoo = new RuleZoo();
        zoo.come(0, kind, number);
        zoo.come(10, otherKind, otherNumber);
        return zoo.may(0, 1);
    }

    private static void mayByKind() {
        Check.isTrue("0: 42 by 6", may(0, 6, 2, 10));
        Check.isFalse("0: 47 by 6", may(0, 6, 2, 15));
        Check.isTrue("0: 35 by 7", may(0, 7, 2, 3));
        Check.isTrue("0: all by 1", may(0, 1, 5, 15));
        Check.isFalse("0: 1 by 2", may(0, 2, 0, 1));
        Check.isTrue("1: less", may(1, 5, 0, 4));
        Check.isFalse("1: the same", may(1, 5, 0, 5));
        Check.isFalse("1: greater", may(1, 5, 0, 6));
        Check.isFalse("2: less", may(2, 5, 0, 4));
        Check.isFalse("2: the same", may(2, 5, 0, 5));
        Check.isTrue("2: greater", may(2, 5, 0, 6));
        for (int number = 1; number <= 15; number++) {
            for (int kind = 0; kind < 6; kind++) {
                Check.is("3: kind " + kind + " by " + number, kind == number % 6 ? 1 : 0,
                        may(3, number, kind, 1) ? 1 : 0);
            }
        }
        Check.isFalse("4: no hunger", may(4, 1, 0, 1));
        Check.isFalse("5: as old", may(5, 1, 0, 1));
    }

    private static void mayByHungerAndAge() {
        RuleZoo zoo = new RuleZoo();
        zoo.come(0, 0, 15);
        zoo.pass(4);
        zoo.come(5, 4, 4);
        zoo.come(10, 4, 5);
        zoo.come(14, 5, 4);
        zoo.come(18, 5, 5);
        zoo.pass(1);
        zoo.feed(0);
        zoo.pass(3);
        Check.isFalse("4: a hunger of 3 is not 4", zoo.may(1, 0));
        zoo.pass(1);
        Check.is("its hunger", 4, zoo.rule(0, 3));
        Check.isTrue("4: a hunger of 4 is 4", zoo.may(1, 0));
        Check.isFalse("4: a hunger of 4 is not 5", zoo.may(2, 0));
        Check.isTrue("5: 4 days older", zoo.may(3, 0));
        Check.isFalse("5: not 5 days older", zoo.may(4, 0));
        Check.isFalse("5: as old", zoo.may(3, 4));
    }

    private static void mayNotTheParentNorTheChild() {
        RuleZoo zoo = new RuleZoo();
        zoo.come(4, 1, 12);
        zoo.come(5, 0, 11);
        zoo.pass(1);
        zoo.come(5, 0, 11);
        zoo.pass(1);
        Check.is("the parent of 3", 0, zoo.rule(3, 7));
        Check.is("the number of 3", 9, zoo.rule(3, 1));
        Check.isFalse("not the child", zoo.may(0, 3));
        zoo.alter(3, 15);
        Check.isFalse("not the parent", zoo.may(3, 0));
        Check.is("the child's prey", -1, zoo.prey(3));
        zoo.come(19, 0, 14);
        Check.isTrue("another one", zoo.may(3, 4));
    }

    private static void mayNeedsBothThere() {
        RuleZoo zoo = three();
        Check.tells(zoo, "may(0, 1)", 1, () -> zoo.may(0, 1) ? 1 : 0);
        Check.tells(zoo, "may(1, 0)", 1, () -> zoo.may(1, 0) ? 1 : 0);
        Check.tells(zoo, "may(0, 0)", 0, () -> zoo.may(0, 0) ? 1 : 0);
        Check.tells(zoo, "may(0, 2), gone", 0, () -> zoo.may(0, 2) ? 1 : 0);
        Check.tells(zoo, "may(2, 0), gone", 0, () -> zoo.may(2, 0) ? 1 : 0);
        Check.tells(zoo, "may(2, 2), gone", 0, () -> zoo.may(2, 2) ? 1 : 0);
        zoo.move(1, 10);
        Check.tells(zoo, "may(0, 1), far", 1, () -> zoo.may(0, 1) ? 1 : 0);
        zoo.come(2, 0, 1);
        Check.isTrue("any code by 1", zoo.may(3, 0));
        Check.isFalse("but not itself", zoo.may(3, 3));
    }

    private static void preyGoesByTheOrderAround() {
        int[] order = {11, 9, 12, 8, 13, 7};
        RuleZoo zoo = new RuleZoo();
        zoo.come(10, 1, 15);
        zoo.come(14, 0, 1);
        zoo.come(6, 0, 1);
        Check.tells(zoo, "four cages off is too far", -1, () -> zoo.prey(0));
        for (int i = 5; i >= 0; i--) {
            int came = zoo.come(order[i], 0, 14);
            Check.tells(zoo, "prey in the cage " + order[i], came, () -> zoo.prey(0));
        }
        zoo.alter(8, 15);
        Check.tells(zoo, "one that it may not eat is passed", 7, () -> zoo.prey(0));
        zoo.free(0);
        Check.tells(zoo, "gone", -1, () -> zoo.prey(0));
    }

    private static void preyGoesRoundTheRing() {
        RuleZoo zoo = new RuleZoo();
        zoo.come(18, 1, 15);
        zoo.come(1, 1, 14);
        Check.is("from 18 to 1", 1, zoo.prey(0));
        Check.is("but not back", -1, zoo.prey(1));
        zoo.alter(0, 13);
        Check.is("from 1 to 18", 0, zoo.prey(1));
        zoo.come(19, 0, 12);
        zoo.come(0, 0, 12);
        Check.is("from 18 to 19", 2, zoo.prey(0));
        Check.is("from 1 to 0", 3, zoo.prey(1));
    }

    private static void huntersAreCounted() {
        RuleZoo zoo = new RuleZoo();
        zoo.come(0, 2, 15);
        Check.tells(zoo, "none", 0, () -> zoo.hunters(0));
        int[] around = {1, 19, 2, 18, 3, 17};
        for (int i = 0; i < 6; i++) {
            zoo.come(around[i], 3, 2);
            int due = i + 1;
            Check.tells(zoo, "hunters", due, () -> zoo.hunters(0));
        }
        zoo.come(4, 3, 2);
        Check.tells(zoo, "one four cages off", 6, () -> zoo.hunters(0));
        zoo.come(6, 2, 15);
        Check.tells(zoo, "3 and 4 have another prey: the first", 5, () -> zoo.hunters(0));
        Check.tells(zoo, "hunters of the other one", 2, () -> zoo.hunters(8));
        zoo.free(0);
        Check.tells(zoo, "gone", 0, () -> zoo.hunters(0));
    }

    private static void chainEndsBehindOneWithoutPrey() {
        RuleZoo zoo = new RuleZoo();
        for (int cage = 0; cage < 20; cage++) {
            zoo.come(cage, 1, 15 - cage % 15);
        }
        Check.tells(zoo, "chain(0)", 15, () -> zoo.chain(0));
        Check.tells(zoo, "chain(10)", 5, () -> zoo.chain(10));
        Check.tells(zoo, "chain(14)", 1, () -> zoo.chain(14));
        Check.tells(zoo, "chain(15)", 5, () -> zoo.chain(15));
        Check.tells(zoo, "chain(19)", 1, () -> zoo.chain(19));
        zoo.free(5);
        Check.tells(zoo, "gone", 0, () -> zoo.chain(5));
    }

    private static void chainEndsWhereItBitesItself() {
        RuleZoo ring = new RuleZoo();
        for (int cage = 0; cage < 20; cage++) {
            ring.come(cage, 3, 3);
        }
        for (int rule = 0; rule < 20; rule++) {
            int asked = rule;
            Check.tells(ring, "round the ring", 20, () -> ring.chain(asked));
        }
        RuleZoo pair = new RuleZoo();
        pair.come(4, 1, 5);
        pair.come(2, 2, 3);
        pair.come(1, 2, 2);
        Check.is("prey(0)", 1, pair.prey(0));
        Check.is("prey(1)", 0, pair.prey(1));
        Check.is("prey(2)", 1, pair.prey(2));
        Check.tells(pair, "two that eat each other", 2, () -> pair.chain(0));
        Check.tells(pair, "a row into them", 3, () -> pair.chain(2));
    }
}
