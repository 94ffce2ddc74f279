/** Each sentence under "Terms" that names an edge: the ring, the numbers, who may eat whom, and how a day goes. */
public final class EdgesOfTermsTest {
    private static final int[] AROUND = {1, -1, 2, -2, 3, -3};

    /** An own number with which a rule of this kind eats none of the others that are made so, and is no meal. */
    private static final int STILL_KIND = 4;
    private static final int STILL_NUMBER = 15;

    public static void main(String[] args) {
        preyIsFoundRoundTheRing();
        offspringIsPutRoundTheRing();
        theOrderOfTheSixNearest();
        theFourthCageIsNotAround();
        preyIsTheFirstThatItMayEat();
        atMostSixtyAreBorn();
        theSixtiethGoesToTheFirstByNumber();
        eachOfSixtyEatsAlike();
        hungerIsZeroToNine();
        oneThatStarvedHasTen();
        atFirstAllIsZero();
        goneIsForGood();
        mayNeedsBoth();
        notTheParentNorTheChild();
        butTheirOtherKin();
        kindZeroDivides();
        kindOneIsLess();
        kindTwoIsGreater();
        kindThreeByTheRemainderOfSix();
        kindFourByNOrMore();
        kindFiveByNDaysOrMore();
        theEatenIsGoneAtOnce();
        theEaterHasTwoLessHunger();
        theEaterHasAMealMore();
        whoAteHasNoMoreHunger();
        withMoreThanNineItStarves();
        withTwoMealsInStore();
        noMoreOnOneDay();
        onlyWithAFreeCageAround();
        inTheFirstThatIsFree();
        twoMealsLessThen();
        theBornAreNotOfThisDay();
        theNumberOfTheBorn();
        theLatestMealCounts();
        theNumberAsItIsAtTheBirth();
        theKindOfTheBorn();
        allThatAreThereGrowOlder();
        Check.end();
    }

    private static int ring(int cage) {
        return (cage + 20) % 20;
    }

    private static void comesStill(RuleZoo zoo, int cage) {
        zoo.come(ring(cage), STILL_KIND, STILL_NUMBER);
    }

    // ---- the ring, and around a cage

    /** "in a ring: behind 19 comes 0", for each cage, to both sides. */
    private static void preyIsFoundRoundTheRing() {
        for (int cage = 0; cage < 20; cage++) {
            for (int step : AROUND) {
                RuleZoo zoo = new RuleZoo();
                zoo.come(cage, 1, 9);
                zoo.come(ring(cage + step), 4, 8);
                Check.is("prey from " + cage + " by " + step, 1, zoo.prey(0));
                Check.is("hunters from " + cage + " by " + step, 1, zoo.hunters(1));
                zoo.pass(1);
                Check.is("eaten from " + cage + " by " + step, 0, zoo.rule(1, 11));
            }
        }
    }

    /** One in this cage, with one meal in store, and another one that it will eat today in the cage by this step. */
    private static RuleZoo breeder(int cage, int step) {
        RuleZoo zoo = new RuleZoo();
        zoo.come(cage, 1, 12);
        zoo.come(ring(cage + step), 4, 11);
        zoo.pass(1);
        zoo.come(ring(cage + step), 4, 11);
        return zoo;
    }

    /** "in a ring: behind 19 comes 0": also for the offspring. */
    private static void offspringIsPutRoundTheRing() {
        for (int cage = 0; cage < 20; cage++) {
            for (int step : AROUND) {
                RuleZoo zoo = breeder(cage, step);
                for (int other : AROUND) {
                    if (other != step) {
                        comesStill(zoo, cage + other);
                    }
                }
                zoo.alter(0, 12);
                zoo.pass(1);
                Check.is("born around " + cage, 1, zoo.count(6));
                Check.is("parent of the one by " + step, 0, zoo.rule(zoo.cage(ring(cage + step)), 7));
            }
        }
    }

    /** "the next one to the right, the next one to the left, the second ones .., the third ones to the right and .." */
    private static void theOrderOfTheSixNearest() {
        for (int first = 0; first < 6; first++) {
            for (int second = first + 1; second < 6; second++) {
                RuleZoo zoo = new RuleZoo();
                zoo.come(10, 1, 9);
                zoo.come(10 + AROUND[second], 4, 8);
                zoo.come(10 + AROUND[first], 4, 8);
                Check.is("by " + AROUND[first] + " before by " + AROUND[second], 2, zoo.prey(0));
                zoo.free(2);
                Check.is("by " + AROUND[second] + " without it", 1, zoo.prey(0));
            }
        }
    }

    /** "the six nearest ones": no other cage. */
    private static void theFourthCageIsNotAround() {
        RuleZoo zoo = new RuleZoo();
        zoo.come(18, 1, 9);
        for (int away = 4; away <= 16; away++) {
            zoo.come(ring(18 + away), 1, 8);
        }
        Check.is("prey", -1, zoo.prey(0));
        Check.is("chain", 1, zoo.chain(0));
        for (int rule = 1; rule <= 13; rule++) {
            Check.is("hunters of " + rule, 0, zoo.hunters(rule));
        }
        zoo.pass(1);
        Check.is("eaten", 0, zoo.count(3));
    }

    /** "The prey of a rule is the first rule around its cage that it may eat, if there is one." */
    private static void preyIsTheFirstThatItMayEat() {
        RuleZoo zoo = new RuleZoo();
        zoo.come(10, 1, 9);
        for (int i = 0; i < 6; i++) {
            zoo.come(10 + AROUND[i], 4, 9);
        }
        Check.is("none of six", -1, zoo.prey(0));
        for (int i = 5; i >= 0; i--) {
            zoo.alter(1 + i, 8);
            Check.is("the one by " + AROUND[i], 1 + i, zoo.prey(0));
            if (i < 5) {
                zoo.alter(1 + i, 9);
                Check.is("the last one", 6, zoo.prey(0));
            }
        }
    }

    // ---- rules

    /** So many came and were let out before. */
    private static RuleZoo behind(int letOut) {
        RuleZoo zoo = new RuleZoo();
        for (int rule = 0; rule < letOut; rule++) {
            zoo.come(0, 0, 1);
            zoo.free(rule);
        }
        return zoo;
    }

    /** "There were at most 60 in all"; offspring only if "there were less than 60 rules". */
    private static void atMostSixtyAreBorn() {
        for (int inAll = 58; inAll <= 60; inAll++) {
            RuleZoo zoo = behind(inAll - 3);
            int parent = zoo.come(4, 1, 12);
            zoo.come(5, 4, 11);
            zoo.come(3, 4, 11);
            zoo.pass(2);
            int born = inAll < 60 ? 1 : 0;
            Check.is("born behind " + inAll, born, zoo.count(6));
            Check.is("in all behind " + inAll, inAll + born, zoo.count(2));
            Check.is("offspring behind " + inAll, born, zoo.rule(parent, 10));
            Check.is("in store behind " + inAll, 2 - 2 * born, zoo.rule(parent, 5));
            Check.is("in its cage behind " + inAll, born == 1 ? inAll : -1, zoo.cage(5));
        }
    }

    /** "by numbers", and "there were less than 60 rules" when it is each one's turn. */
    private static void theSixtiethGoesToTheFirstByNumber() {
        RuleZoo zoo = behind(53);
        for (int cage : new int[] {14, 4}) {
            zoo.come(cage, 1, 12);
            zoo.come(cage + 1, 4, 11);
            zoo.come(cage - 1, 4, 11);
        }
        zoo.pass(2);
        Check.is("in all", 60, zoo.count(2));
        Check.is("offspring of the first one", 1, zoo.rule(53, 10));
        Check.is("offspring of the second one", 0, zoo.rule(56, 10));
        Check.is("its store", 2, zoo.rule(56, 5));
        Check.is("the 60th", 59, zoo.cage(15));
        Check.is("no 61st", -1, zoo.cage(5));
    }

    /** "at most 60 in all, numbered from 0": whatever its number is, a rule eats, hunts and starves as each other one. */
    private static void eachOfSixtyEatsAlike() {
        for (int eater = 0; eater <= 58; eater++) {
            RuleZoo zoo = behind(eater);
            zoo.come(4, 1, 12);
            zoo.come(5, 4, 11);
            Check.is("prey of " + eater, eater + 1, zoo.prey(eater));
            Check.is("chain of " + eater, 2, zoo.chain(eater));
            Check.is("lives of " + eater, 11, zoo.lives(eater));
            Check.is("one is gone", 1, zoo.pass(1));
            Check.is("eaten by " + eater, eater, zoo.rule(eater + 1, 11));
            Check.is("no hunger of " + eater, 0, zoo.rule(eater, 3));
            Check.is("none is gone", 0, zoo.pass(9));
            Check.is("one starves", 1, zoo.pass(1));
            Check.is("it starved: " + eater, 2, zoo.rule(eater, 9));
        }
    }

    /** "hunger, 0 to 9" */
    private static void hungerIsZeroToNine() {
        RuleZoo zoo = new RuleZoo();
        zoo.come(3, 0, 15);
        Check.is("at first", 0, zoo.rule(0, 3));
        zoo.pass(9);
        Check.is("behind 9 days", 9, zoo.rule(0, 3));
        Check.is("it is there", 0, zoo.rule(0, 9));
        zoo.feed(0);
        Check.is("fed", 0, zoo.rule(0, 3));
        zoo.come(4, 0, 15);
        zoo.pass(1);
        Check.is("it ate with no hunger", 0, zoo.rule(0, 3));
    }

    /** "one that starved has 10" */
    private static void oneThatStarvedHasTen() {
        RuleZoo zoo = new RuleZoo();
        zoo.come(3, 0, 15);
        zoo.pass(10);
        Check.is("its hunger", 10, zoo.rule(0, 3));
        Check.is("it starved", 2, zoo.rule(0, 9));
        zoo.pass(50);
        Check.is("its hunger for good", 10, zoo.rule(0, 3));
        Check.is("not in the mean", 0, (long) zoo.mean());
    }

    /** "hunger .. (0, at first ..), an age in days (0, at first), meals that it has in store (0, at first)" */
    private static void atFirstAllIsZero() {
        RuleZoo zoo = breeder(8, 1);
        zoo.pass(1);
        int came = zoo.come(0, 2, 15);
        for (int rule : new int[] {3, came}) {
            Check.is("hunger of " + rule, 0, zoo.rule(rule, 3));
            Check.is("age of " + rule, 0, zoo.rule(rule, 4));
            Check.is("store of " + rule, 0, zoo.rule(rule, 5));
            Check.is("meals of " + rule, 0, zoo.rule(rule, 6));
            Check.is("offspring of " + rule, 0, zoo.rule(rule, 10));
            Check.is("eater of " + rule, -1, zoo.rule(rule, 11));
        }
        Check.is("the parent of the born one", 0, zoo.rule(3, 7));
        Check.is("no parent of one that came", -1, zoo.rule(came, 7));
    }

    /** "it is there, in a cage, or gone for good" */
    private static void goneIsForGood() {
        RuleZoo zoo = new RuleZoo();
        zoo.come(0, 0, 15);
        zoo.pass(9);
        zoo.come(5, 1, 9);
        zoo.come(6, 4, 8);
        zoo.come(14, 2, 15);
        zoo.free(3);
        zoo.pass(1);
        for (int days : new int[] {1, 50, 50}) {
            zoo.pass(days);
            Check.is("starved", 2, zoo.rule(0, 9));
            Check.is("eaten", 1, zoo.rule(2, 9));
            Check.is("let out", 3, zoo.rule(3, 9));
            for (int rule : new int[] {0, 2, 3}) {
                Check.is("no cage of " + rule, -1, zoo.rule(rule, 8));
            }
        }
        Check.is("there", 0, zoo.count(1));
    }

    // ---- who may eat whom

    /** "if both are there" */
    private static void mayNeedsBoth() {
        RuleZoo zoo = new RuleZoo();
        zoo.come(0, 0, 1);
        zoo.come(10, 0, 1);
        Check.isTrue("both are there", zoo.may(0, 1));
        zoo.free(1);
        Check.isFalse("the other one was let out", zoo.may(0, 1));
        Check.isFalse("it was let out itself", zoo.may(1, 0));
        zoo.come(10, 3, 6);
        zoo.feed(2);
        zoo.come(1, 4, 8);
        zoo.pass(1);
        Check.is("0 ate 3", 0, zoo.rule(3, 11));
        Check.isFalse("the other one was eaten", zoo.may(0, 3));
        zoo.pass(5);
        zoo.come(5, 0, 1);
        zoo.feed(0);
        zoo.pass(4);
        Check.is("2 starved", 2, zoo.rule(2, 9));
        Check.isFalse("the other one starved", zoo.may(0, 2));
        Check.isFalse("it starved itself", zoo.may(2, 0));
        Check.isTrue("both are there again", zoo.may(0, 4));
    }

    /** "neither is the parent of the other one" */
    private static void notTheParentNorTheChild() {
        RuleZoo zoo = breeder(8, 1);
        zoo.pass(1);
        Check.is("the parent", 0, zoo.rule(3, 7));
        for (int number = 1; number <= 15; number++) {
            for (int other = 1; other <= 15; other += 7) {
                zoo.alter(0, number);
                zoo.alter(3, other);
                Check.isFalse("the parent the child, by " + number, zoo.may(0, 3));
                Check.isFalse("the child the parent, by " + other, zoo.may(3, 0));
            }
        }
        zoo.alter(0, 15);
        zoo.alter(3, 1);
        Check.is("the parent's prey", -1, zoo.prey(0));
        Check.is("the child's hunters", 0, zoo.hunters(3));
        zoo.pass(1);
        Check.is("the child is there", 0, zoo.rule(3, 9));
    }

    /** "neither is the parent of the other one": one that has the same parent, or the parent's parent, is a meal. */
    private static void butTheirOtherKin() {
        RuleZoo zoo = breeder(8, 1);
        zoo.pass(1);
        zoo.come(7, 4, 11);
        zoo.pass(1);
        zoo.come(7, 4, 11);
        zoo.pass(1);
        Check.is("a child", 0, zoo.rule(3, 7));
        Check.is("another child", 0, zoo.rule(6, 7));
        zoo.alter(3, 15);
        Check.isTrue("the child another child", zoo.may(3, 6));
        zoo.move(3, 15);
        for (int meal = 0; meal < 2; meal++) {
            zoo.come(16, 4, 11);
            zoo.pass(1);
        }
        Check.is("a child's child", 3, zoo.rule(9, 7));
        zoo.alter(0, 15);
        zoo.alter(9, 1);
        Check.isTrue("the parent's parent the child's child", zoo.may(0, 9));
        zoo.alter(9, 15);
        zoo.alter(0, 1);
        Check.isTrue("the child's child the parent's parent", zoo.may(9, 0));
    }

    private static boolean may(int kind, int number, int otherKind, int otherNumber) {
        RuleZoo zoo = new RuleZoo();
        zoo.come(0, kind, number);
        zoo.come(10, otherKind, otherNumber);
        return zoo.may(0, 1);
    }

    /** "by the kind 0, the code of the other one can be divided by n", for each n and each code. */
    private static void kindZeroDivides() {
        for (int n = 1; n <= 15; n++) {
            for (int kind = 0; kind < 6; kind++) {
                for (int number = 1; number <= 15; number++) {
                    int code = 16 * kind + number;
                    Check.is("0: " + code + " by " + n, code % n == 0 ? 1 : 0, may(0, n, kind, number) ? 1 : 0);
                }
            }
        }
    }

    /** "by the kind 1, the number of the other one is less than n", on both sides of each n. */
    private static void kindOneIsLess() {
        for (int n = 1; n <= 15; n++) {
            Check.isFalse("1: the same " + n, may(1, n, 0, n));
            Check.isFalse("1: greater than " + n, n < 15 && may(1, n, 5, n + 1));
            Check.is("1: less than " + n, n > 1 ? 1 : 0, n > 1 && may(1, n, 5, n - 1) ? 1 : 0);
        }
        Check.isFalse("1: 15 is not less than 1", may(1, 1, 0, 15));
        Check.isTrue("1: 1 is less than 15", may(1, 15, 5, 1));
    }

    /** "by the kind 2, the number of the other one is greater than n", on both sides of each n. */
    private static void kindTwoIsGreater() {
        for (int n = 1; n <= 15; n++) {
            Check.isFalse("2: the same " + n, may(2, n, 5, n));
            Check.is("2: greater than " + n, n < 15 ? 1 : 0, n < 15 && may(2, n, 0, n + 1) ? 1 : 0);
            Check.isFalse("2: less than " + n, n > 1 && may(2, n, 5, n - 1));
        }
        Check.isTrue("2: 15 is greater than 1", may(2, 1, 0, 15));
        Check.isFalse("2: 1 is not greater than 15", may(2, 15, 5, 1));
    }

    /** "by the kind 3, the kind of the other one is n by the remainder of 6" */
    private static void kindThreeByTheRemainderOfSix() {
        int[] due = {1, 2, 3, 4, 5, 0, 1, 2, 3, 4, 5, 0, 1, 2, 3};
        for (int n = 1; n <= 15; n++) {
            for (int kind = 0; kind < 6; kind++) {
                Check.is("3: the kind " + kind + " by " + n, due[n - 1] == kind ? 1 : 0, may(3, n, kind, 15) ? 1 : 0);
            }
        }
    }

    /** "by the kind 4, the other one has a hunger of n or more", for each hunger and each n. */
    private static void kindFourByNOrMore() {
        RuleZoo zoo = new RuleZoo();
        zoo.come(0, 2, 15);
        zoo.come(10, 4, 15);
        for (int hunger = 0; hunger <= 9; hunger++) {
            Check.is("the hunger", hunger, zoo.rule(0, 3));
            for (int n = 1; n <= 15; n++) {
                zoo.alter(1, n);
                Check.is("4: a hunger of " + hunger + " by " + n, hunger >= n ? 1 : 0, zoo.may(1, 0) ? 1 : 0);
            }
            zoo.feed(1);
            zoo.pass(1);
        }
        zoo.alter(1, 10);
        Check.is("it starved with 10", 10, zoo.rule(0, 3));
        Check.isFalse("4: none has a hunger of 10", zoo.may(1, 0));
    }

    /** "by the kind 5, the other one is older than it by n days or more", for each n. */
    private static void kindFiveByNDaysOrMore() {
        RuleZoo zoo = new RuleZoo();
        zoo.come(0, 2, 15);
        zoo.pass(3);
        zoo.come(10, 5, 15);
        zoo.come(5, 5, 15);
        Check.isFalse("5: as old, by 1", mayBy(zoo, 1, 1, 2));
        zoo.free(2);
        for (int days = 3; days <= 15; days++) {
            int younger = zoo.cage(10);
            Check.is("older by", days, zoo.rule(0, 4) - zoo.rule(younger, 4));
            for (int n = 1; n <= 15; n++) {
                Check.is("5: by " + n + " of " + days, days >= n ? 1 : 0, mayBy(zoo, younger, n, 0) ? 1 : 0);
            }
            Check.isFalse("5: not one that is younger", may5OfTheOlder(days));
            zoo.free(younger);
            zoo.feed(0);
            zoo.pass(1);
            zoo.come(10, 5, 15);
        }
    }

    private static boolean mayBy(RuleZoo zoo, int rule, int number, int other) {
        zoo.alter(rule, number);
        return zoo.may(rule, other);
    }

    /** One of the kind 5 that is older by so many days than the other one. */
    private static boolean may5OfTheOlder(int days) {
        RuleZoo zoo = new RuleZoo();
        zoo.come(0, 5, 1);
        for (int day = 0; day < days; day++) {
            zoo.feed(0);
            zoo.pass(1);
        }
        zoo.come(10, 0, 1);
        return zoo.may(0, 1);
    }

    // ---- a day: eating and hunger

    /** "the prey is gone at once (it does not eat any more)" */
    private static void theEatenIsGoneAtOnce() {
        RuleZoo zoo = new RuleZoo();
        zoo.come(10, 1, 9);
        zoo.come(12, 1, 8);
        zoo.come(14, 4, 7);
        zoo.come(9, 1, 10);
        Check.is("0 would eat 1", 1, zoo.prey(0));
        Check.is("1 would eat 2", 2, zoo.prey(1));
        Check.is("3 would eat 0", 0, zoo.prey(3));
        Check.is("3 may not come to 2", -1, zoo.prey(2));
        zoo.pass(1);
        Check.is("1 did not eat", 0, zoo.rule(1, 6));
        Check.is("2 is there", 0, zoo.rule(2, 9));
        Check.is("0 ate before it was eaten", 1, zoo.rule(0, 6));
        Check.is("3 ate 0", 3, zoo.rule(0, 11));
        RuleZoo two = new RuleZoo();
        two.come(10, 1, 9);
        two.come(12, 1, 9);
        two.come(11, 4, 8);
        two.come(14, 4, 7);
        two.pass(1);
        Check.is("the first one ate it", 0, two.rule(2, 11));
        Check.is("it was gone, so the second one ate another one", 1, two.rule(3, 11));
    }

    /** "the other one has 2 less hunger (at least 0)" */
    private static void theEaterHasTwoLessHunger() {
        for (int hunger = 0; hunger <= 9; hunger++) {
            RuleZoo zoo = new RuleZoo();
            zoo.come(3, 1, 9);
            if (hunger > 0) {
                zoo.pass(hunger);
            }
            zoo.come(4, 4, 8);
            Check.is("before", hunger, zoo.rule(0, 3));
            zoo.pass(1);
            Check.is("it ate with " + hunger, 1, zoo.rule(0, 6));
            Check.is("2 less than " + hunger, hunger < 2 ? 0 : hunger - 2, zoo.rule(0, 3));
        }
    }

    /** ".. and 1 meal more in store" */
    private static void theEaterHasAMealMore() {
        RuleZoo zoo = new RuleZoo();
        zoo.come(3, 1, 9);
        zoo.come(4, 4, 8);
        zoo.pass(1);
        Check.is("in store", 1, zoo.rule(0, 5));
        zoo.pass(1);
        Check.is("no meal, no more in store", 1, zoo.rule(0, 5));
        zoo.feed(0);
        Check.is("feeding is no meal", 1, zoo.rule(0, 5));
        Check.is("all that it ate", 1, zoo.rule(0, 6));
    }

    /** "Each rule that is there and did not eat on this day has 1 more hunger" */
    private static void whoAteHasNoMoreHunger() {
        RuleZoo zoo = new RuleZoo();
        zoo.come(3, 1, 9);
        zoo.come(4, 4, 8);
        zoo.come(13, 4, 8);
        zoo.pass(1);
        Check.is("one that ate", 0, zoo.rule(0, 3));
        Check.is("one that was eaten before", 0, zoo.rule(1, 3));
        Check.is("one that did not eat", 1, zoo.rule(2, 3));
        zoo.pass(1);
        Check.is("it did not eat on the next day", 1, zoo.rule(0, 3));
        Check.is("one that is gone", 0, zoo.rule(1, 3));
    }

    /** "with more than 9 it starves, and is gone" */
    private static void withMoreThanNineItStarves() {
        RuleZoo zoo = new RuleZoo();
        zoo.come(3, 1, 9);
        zoo.come(13, 4, 9);
        Check.is("none starves with 9", 0, zoo.pass(9));
        zoo.come(4, 4, 8);
        Check.is("one starves with 10, one is eaten", 2, zoo.pass(1));
        Check.is("one that ate with 9", 7, zoo.rule(0, 3));
        Check.is("it is there", 3, zoo.rule(0, 8));
        Check.is("the other one starved", 2, zoo.rule(1, 9));
        Check.is("its cage is free", -1, zoo.cage(13));
        Check.is("none starves with 8 and 9", 0, zoo.pass(2));
        Check.is("and one with 10", 1, zoo.pass(1));
        RuleZoo born = breeder(8, 1);
        born.pass(1);
        Check.is("one that was born starves too", 0, born.pass(9));
        Check.is("it had 0 when the parent had 0", 2, born.pass(1));
    }

    // ---- a day: offspring

    /** "one with 2 or more meals in store has one offspring" */
    private static void withTwoMealsInStore() {
        RuleZoo zoo = new RuleZoo();
        zoo.come(8, 1, 12);
        zoo.come(9, 4, 11);
        zoo.pass(3);
        Check.is("one in store", 1, zoo.rule(0, 5));
        Check.is("none is born", 0, zoo.count(6));
        zoo.come(9, 4, 11);
        zoo.pass(1);
        Check.is("two in store", 1, zoo.count(6));
        for (int store = 1; store <= 4; store++) {
            RuleZoo more = blocked(store);
            more.free(more.cage(11));
            Check.is("in store", store, more.rule(1, 5));
            Check.is("no offspring yet", 0, more.rule(1, 10));
            more.pass(1);
            Check.is("born with " + store, store < 2 ? 0 : 1, more.rule(1, 10));
        }
    }

    /**
     * 1 in the cage 10 (kind 3, number 4) has eaten so many, and found no free cage around it on any day: 0 in the
     * cage 9 ate two for each one, and had its offspring, as the lower number, in the cage that got free.
     */
    static RuleZoo blocked(int meals) {
        RuleZoo zoo = new RuleZoo();
        zoo.come(9, 3, 5);
        zoo.come(10, 3, 4);
        for (int cage : new int[] {11, 12, 13, 7, 8}) {
            zoo.come(cage, 1, 1);
        }
        for (int meal = 0; meal < meals; meal++) {
            zoo.come(6, 5, 15);
            zoo.pass(1);
            zoo.free(zoo.cage(8));
            zoo.come(6, 5, 15);
            zoo.come(8, 4, 15);
            zoo.pass(1);
            zoo.alter(zoo.cage(8), 15);
        }
        for (int cage = 7; cage <= 13; cage++) {
            zoo.feed(zoo.cage(cage));
        }
        return zoo;
    }

    /** "no more on one day" */
    private static void noMoreOnOneDay() {
        RuleZoo zoo = blocked(4);
        Check.is("in store", 4, zoo.rule(1, 5));
        Check.is("no offspring yet", 0, zoo.rule(1, 10));
        zoo.free(zoo.cage(11));
        zoo.free(zoo.cage(12));
        zoo.free(zoo.cage(13));
        int before = zoo.count(2);
        zoo.pass(1);
        Check.is("one on the first day", before + 1, zoo.count(2));
        Check.is("two in store", 2, zoo.rule(1, 5));
        zoo.pass(1);
        Check.is("one on the second day", 2, zoo.rule(1, 10));
        zoo.pass(1);
        Check.is("none without a store", 2, zoo.rule(1, 10));
    }

    /** "if one of the six cages around it is free": the cages by 4 don't count, and the store is kept. */
    private static void onlyWithAFreeCageAround() {
        for (int step : AROUND) {
            RuleZoo zoo = blocked(2);
            Check.is("the cage 6 is free", -1, zoo.cage(6));
            Check.is("the cage 14 is free", -1, zoo.cage(14));
            Check.is("in store", 2, zoo.rule(1, 5));
            zoo.pass(1);
            Check.is("no offspring", 0, zoo.rule(1, 10));
            Check.is("still in store", 2, zoo.rule(1, 5));
            zoo.free(zoo.cage(10 + step));
            zoo.pass(1);
            Check.is("offspring by " + step, 1, zoo.rule(1, 10));
            Check.is("its parent", 1, zoo.rule(zoo.cage(10 + step), 7));
        }
    }

    /** "in the first one that is free" */
    private static void inTheFirstThatIsFree() {
        for (int first = 0; first < 6; first++) {
            for (int second = first + 1; second < 6; second++) {
                RuleZoo zoo = blocked(2);
                zoo.free(zoo.cage(10 + AROUND[first]));
                zoo.free(zoo.cage(10 + AROUND[second]));
                zoo.pass(1);
                Check.is("one is born", 1, zoo.rule(1, 10));
                Check.is("its cage", 10 + AROUND[first], zoo.rule(zoo.count(2) - 1, 8));
                Check.is("the second one is free", -1, zoo.cage(10 + AROUND[second]));
            }
        }
    }

    /** "It has 2 meals less in store then." */
    private static void twoMealsLessThen() {
        RuleZoo zoo = breeder(8, 1);
        zoo.pass(1);
        Check.is("2 less than 2", 0, zoo.rule(0, 5));
        Check.is("all that it ate is not less", 2, zoo.rule(0, 6));
        RuleZoo more = blocked(4);
        more.free(more.cage(11));
        more.pass(1);
        Check.is("2 less than 4", 2, more.rule(1, 5));
        Check.is("all that it ate is not less than 4", 4, more.rule(1, 6));
    }

    /** "(not those that are born on this day)", "as old as 0 days", "but for those that were born on this day" */
    private static void theBornAreNotOfThisDay() {
        RuleZoo zoo = breeder(8, 1);
        zoo.pass(1);
        Check.is("one was born", 4, zoo.count(2));
        Check.is("its age on the day of its birth", 0, zoo.rule(3, 4));
        Check.is("its hunger on the day of its birth", 0, zoo.rule(3, 3));
        Check.is("its offspring on the day of its birth", 0, zoo.rule(3, 10));
        Check.is("its parent's age", 2, zoo.rule(0, 4));
        zoo.come(12, 4, 8);
        zoo.pass(1);
        Check.is("its age on the next day", 1, zoo.rule(3, 4));
        Check.is("it eats on the next day", 1, zoo.rule(3, 6));
    }

    /** One of this kind and number ate two of the other kind and number, and has had an offspring, 3. */
    private static RuleZoo parentOf(int kind, int number, int eatenKind, int eatenNumber) {
        RuleZoo zoo = new RuleZoo();
        zoo.come(8, kind, number);
        zoo.come(9, eatenKind, eatenNumber);
        zoo.pass(1);
        zoo.come(9, eatenKind, eatenNumber);
        zoo.pass(1);
        return zoo;
    }

    /** "added, by the remainder of 15, and 1 more", for each number of the parent and of the eaten one. */
    private static void theNumberOfTheBorn() {
        for (int number = 1; number <= 15; number++) {
            for (int eaten = 1; eaten <= 15; eaten++) {
                int kind = eaten < number ? 1 : eaten > number ? 2 : 3;
                RuleZoo zoo = parentOf(kind, number, number % 6, eaten);
                int due = number + eaten;
                while (due >= 15) {
                    due -= 15;
                }
                Check.is("the number by " + number + " and " + eaten, due + 1, zoo.rule(3, 1));
            }
        }
        Check.is("7 and 7", 15, parentOf(3, 7, 1, 7).rule(3, 1));
        Check.is("7 and 8", 1, parentOf(2, 7, 1, 8).rule(3, 1));
        Check.is("8 and 8", 2, parentOf(3, 8, 2, 8).rule(3, 1));
        Check.is("15 and 14", 15, parentOf(1, 15, 2, 14).rule(3, 1));
        Check.is("15 and 15", 1, parentOf(3, 15, 3, 15).rule(3, 1));
        Check.is("1 and 1", 3, parentOf(3, 1, 1, 1).rule(3, 1));
    }

    /** "the one of the rule that this ate the latest time" */
    private static void theLatestMealCounts() {
        for (int latest = 1; latest <= 11; latest++) {
            RuleZoo zoo = new RuleZoo();
            zoo.come(8, 1, 12);
            zoo.come(9, 4, 12 - latest);
            zoo.pass(1);
            zoo.come(9, 5, latest);
            zoo.pass(1);
            Check.is("12 and " + latest, (12 + latest) % 15 + 1, zoo.rule(3, 1));
        }
        RuleZoo late = blocked(2);
        late.pass(3);
        late.free(late.cage(11));
        late.pass(1);
        Check.is("days behind: 4 and 15", 5, late.rule(late.cage(11), 1));
        Check.is("days behind, its kind", 4, late.rule(late.cage(11), 0));
    }

    /** "its number is the number of the parent ..": as it is then; "had" a greater number "than the parent has". */
    private static void theNumberAsItIsAtTheBirth() {
        RuleZoo less = blocked(2);
        less.alter(1, 14);
        less.free(less.cage(11));
        less.pass(1);
        Check.is("14 and 15", 15, less.rule(less.cage(11), 1));
        Check.is("15 is greater than 14", 4, less.rule(less.cage(11), 0));
        RuleZoo same = blocked(2);
        same.free(0);
        same.come(9, 1, 1);
        same.alter(1, 15);
        same.free(same.cage(11));
        same.pass(1);
        Check.is("15 and 15", 1, same.rule(same.cage(11), 1));
        Check.is("15 is not greater than 15", 3, same.rule(same.cage(11), 0));
    }

    /** "if the eaten one had a greater number than the parent has, otherwise that of the parent" */
    private static void theKindOfTheBorn() {
        for (int number = 1; number <= 15; number++) {
            int eatenKind = number % 6 == 3 ? 0 : number % 6;
            if (number < 15) {
                Check.is("one more than " + number, 5, parentOf(2, number, 5, number + 1).rule(3, 0));
            }
            if (number > 1) {
                Check.is("one less than " + number, 1, parentOf(1, number, 5, number - 1).rule(3, 0));
            }
            if (number % 6 != 3) {
                Check.is("the same as " + number, 3, parentOf(3, number, eatenKind, number).rule(3, 0));
            }
        }
        Check.is("15 and 1", 1, parentOf(1, 15, 5, 1).rule(3, 0));
        Check.is("1 and 15", 5, parentOf(2, 1, 5, 15).rule(3, 0));
    }

    /** "Each rule that is there is 1 day older .. The day is 1 greater." */
    private static void allThatAreThereGrowOlder() {
        RuleZoo zoo = new RuleZoo();
        zoo.pass(1);
        Check.is("the day of an empty zoo", 1, zoo.count(0));
        zoo.come(8, 1, 12);
        zoo.pass(2);
        zoo.come(9, 4, 11);
        zoo.come(18, 4, 11);
        zoo.pass(1);
        Check.is("one that ate", 3, zoo.rule(0, 4));
        Check.is("one that was eaten is not older", 0, zoo.rule(1, 4));
        Check.is("one that did nothing", 1, zoo.rule(2, 4));
        zoo.free(0);
        zoo.pass(9);
        Check.is("one that was let out is not older", 3, zoo.rule(0, 4));
        Check.is("one that starved is not older on that day", 9, zoo.rule(2, 4));
        Check.is("the day", 13, zoo.count(0));
        for (int days = 0; days < 450; days++) {
            zoo.pass(50);
        }
        Check.is("the day for long", 13 + 450 * 50, zoo.count(0));
    }
}
