/** How a day goes, and promise 14: pass. */
public final class DaysTest {
    public static void main(String[] args) {
        passTellsAllThatAreGone();
        theEatenEatNoMore();
        theFirstByNumberEatsFirst();
        eatingMindsTheHungerOfThatMoment();
        hungerAndStarving();
        aMealTakesTwoHunger();
        offspringTakesTheFirstFreeCage();
        offspringTakesAfterTheEaten();
        offspringTakesAfterItsParent();
        offspringTakesAfterTheLatestMeal();
        offspringHasParentsNumberAsItIsNow();
        noOffspringWithoutAFreeCage();
        noOffspringBehindSixty();
        oneOffspringADay();
        theBornDoNotAgeNorBear();
        Check.end();
    }

    /** A breeder in the cage 5, with two meals beside it. */
    private static RuleZoo breeder() {
        RuleZoo zoo = new RuleZoo();
        zoo.come(5, 1, 12);
        zoo.come(6, 4, 11);
        zoo.come(4, 4, 11);
        return zoo;
    }

    private static void passTellsAllThatAreGone() {
        RuleZoo zoo = breeder();
        zoo.come(15, 0, 7);
        zoo.free(3);
        Check.is("two eaten; one let out before does not count", 2, zoo.pass(2));
        Check.is("born", 1, zoo.count(6));
        Check.is("the parent and the born one", 2, zoo.pass(20));
        RuleZoo again = breeder();
        Check.is("at once, with the one that was born in these days", 4, again.pass(22));
    }

    private static void theEatenEatNoMore() {
        RuleZoo zoo = new RuleZoo();
        zoo.come(0, 1, 9);
        zoo.come(1, 1, 8);
        zoo.come(2, 1, 7);
        Check.is("prey(1)", 2, zoo.prey(1));
        Check.is("pass(1)", 1, zoo.pass(1));
        Check.is("1 was eaten", 1, zoo.rule(1, 9));
        Check.is("by 0", 0, zoo.rule(1, 11));
        Check.is("before it ate", 0, zoo.rule(1, 6));
        Check.is("2 is there", 0, zoo.rule(2, 9));
        Check.is("2 is hungry", 1, zoo.rule(2, 3));
        Check.is("its cage is free", -1, zoo.cage(1));
    }

    private static void theFirstByNumberEatsFirst() {
        RuleZoo zoo = new RuleZoo();
        zoo.come(10, 1, 7);
        zoo.come(9, 1, 8);
        zoo.come(8, 1, 9);
        zoo.come(11, 3, 1);
        Check.is("pass(1)", 3, zoo.pass(1));
        Check.is("0 ate 3 at first", 0, zoo.rule(3, 11));
        Check.is("1 ate 0 then", 1, zoo.rule(0, 11));
        Check.is("0 went with its meal", 1, zoo.rule(0, 5));
        Check.is("0 went as old as 0 days", 0, zoo.rule(0, 4));
        Check.is("2 ate 1 at last", 2, zoo.rule(1, 11));
        Check.is("2 is there", 0, zoo.rule(2, 9));
    }

    private static void eatingMindsTheHungerOfThatMoment() {
        RuleZoo zoo = new RuleZoo();
        zoo.come(0, 1, 9);
        zoo.pass(5);
        zoo.come(1, 3, 2);
        zoo.come(19, 4, 4);
        Check.is("2 would eat the hungry 0", 0, zoo.prey(2));
        Check.is("pass(1)", 1, zoo.pass(1));
        Check.is("but 0 ate before, and has a hunger of 3", 3, zoo.rule(0, 3));
        Check.is("0 is there", 0, zoo.rule(0, 9));
        Check.is("2 ate nothing", 0, zoo.rule(2, 6));
    }

    private static void hungerAndStarving() {
        RuleZoo zoo = new RuleZoo();
        zoo.come(3, 0, 15);
        for (int day = 1; day <= 9; day++) {
            Check.is("none starves on the day " + day, 0, zoo.pass(1));
            Check.is("hunger", day, zoo.rule(0, 3));
            Check.is("age", day, zoo.rule(0, 4));
        }
        Check.is("it starves", 1, zoo.pass(1));
        Check.is("hunger of the starved", 10, zoo.rule(0, 3));
        Check.is("age of the starved", 9, zoo.rule(0, 4));
        Check.is("starved", 2, zoo.rule(0, 9));
        Check.is("cage of the starved", -1, zoo.rule(0, 8));
        Check.is("its cage", -1, zoo.cage(3));
        Check.is("its eater", -1, zoo.rule(0, 11));
        Check.is("count(4)", 1, zoo.count(4));
    }

    private static void aMealTakesTwoHunger() {
        RuleZoo zoo = new RuleZoo();
        zoo.come(3, 1, 15);
        zoo.pass(5);
        zoo.come(4, 0, 14);
        zoo.pass(1);
        Check.is("5 less 2", 3, zoo.rule(0, 3));
        zoo.come(4, 0, 14);
        zoo.pass(1);
        Check.is("3 less 2", 1, zoo.rule(0, 3));
        zoo.come(2, 0, 14);
        zoo.pass(1);
        Check.is("1 less 2 is 0", 0, zoo.rule(0, 3));
        Check.is("all that it ate", 3, zoo.rule(0, 6));
        Check.is("in store", 1, zoo.rule(0, 5));
    }

    private static void offspringTakesTheFirstFreeCage() {
        int[] order = {11, 9, 12, 8, 13, 7};
        for (int taken = 0; taken < 6; taken++) {
            RuleZoo zoo = new RuleZoo();
            zoo.come(10, 1, 2);
            zoo.come(order[5], 0, 1);
            zoo.pass(1);
            zoo.come(order[5], 0, 1);
            for (int i = 0; i < taken; i++) {
                zoo.come(order[i], 2, 15);
            }
            zoo.pass(1);
            Check.is("born behind " + taken, 1, zoo.rule(0, 10));
            Check.is("in the first free one", zoo.count(2) - 1, zoo.cage(order[taken]));
        }
    }

    private static void offspringTakesAfterTheEaten() {
        RuleZoo zoo = new RuleZoo();
        zoo.come(5, 2, 7);
        zoo.come(6, 5, 8);
        zoo.pass(1);
        zoo.come(6, 5, 8);
        zoo.pass(1);
        Check.is("its kind is that of the eaten one", 5, zoo.rule(3, 0));
        Check.is("15 by the remainder of 15, and 1", 1, zoo.rule(3, 1));
        Check.is("its parent", 0, zoo.rule(3, 7));
        Check.is("its hunger", 0, zoo.rule(3, 3));
        Check.is("its store", 0, zoo.rule(3, 5));
        Check.is("its meals", 0, zoo.rule(3, 6));
    }

    private static void offspringTakesAfterItsParent() {
        RuleZoo zoo = breeder();
        zoo.pass(2);
        Check.is("its kind is that of the parent", 1, zoo.rule(3, 0));
        Check.is("23 by the remainder of 15, and 1", 9, zoo.rule(3, 1));
        RuleZoo same = new RuleZoo();
        same.come(5, 0, 7);
        same.come(6, 2, 3);
        same.pass(1);
        same.come(6, 1, 7);
        same.alter(0, 1);
        same.pass(1);
        Check.is("it ate two", 2, same.rule(0, 6));
        Check.is("a greater number than the parent's", 1, same.rule(3, 0));
        RuleZoo even = new RuleZoo();
        even.come(5, 3, 2);
        even.come(6, 2, 2);
        even.pass(1);
        even.come(6, 2, 2);
        even.pass(1);
        Check.is("the same number is not greater", 3, even.rule(3, 0));
        Check.is("2 and 2, and 1", 5, even.rule(3, 1));
    }

    private static void offspringTakesAfterTheLatestMeal() {
        RuleZoo zoo = new RuleZoo();
        zoo.come(5, 0, 1);
        zoo.come(6, 4, 9);
        zoo.pass(1);
        zoo.come(6, 5, 12);
        zoo.pass(1);
        Check.is("its kind is that of the latest one", 5, zoo.rule(3, 0));
        Check.is("1 and 12, and 1", 14, zoo.rule(3, 1));
    }

    private static void offspringHasParentsNumberAsItIsNow() {
        RuleZoo zoo = new RuleZoo();
        zoo.come(5, 1, 12);
        zoo.come(6, 4, 11);
        zoo.pass(1);
        zoo.alter(0, 13);
        zoo.come(6, 4, 10);
        zoo.pass(1);
        Check.is("13 and 10 by the remainder of 15, and 1", 9, zoo.rule(3, 1));
    }

    /**
     * 0 in the cage 9 eats what comes to 6; 1 in the cage 10 what comes to 8; the others eat nothing.
     * On every second day 0 has offspring in 8, so that around 1 no cage is free.
     */
    private static void noOffspringWithoutAFreeCage() {
        RuleZoo zoo = new RuleZoo();
        zoo.come(9, 3, 5);
        zoo.come(10, 3, 4);
        for (int cage : new int[] {11, 12, 13, 7, 8}) {
            zoo.come(cage, 1, 1);
        }
        for (int meals = 1; meals <= 4; meals++) {
            zoo.come(6, 5, 15);
            zoo.pass(1);
            Check.is("still without offspring", 0, zoo.rule(1, 10));
            zoo.free(zoo.cage(8));
            zoo.come(6, 5, 15);
            zoo.come(8, 4, 15);
            zoo.pass(1);
            int born = zoo.cage(8);
            Check.is("the offspring of 0", 0, zoo.rule(born, 7));
            Check.is("with the number 6", 6, zoo.alter(born, 15));
            Check.is("1 ate", meals, zoo.rule(1, 6));
            Check.is("and has it all in store", meals, zoo.rule(1, 5));
        }
        zoo.free(zoo.cage(11));
        zoo.free(zoo.cage(12));
        Check.is("its offspring will take after what it ate before now, and eat one that has hunger",
                zoo.count(3) + 1, zoo.foresee(2, 1));
        zoo.pass(1);
        Check.is("two cages free: no more than one on a day", 1, zoo.rule(1, 10));
        Check.is("it takes two meals", 2, zoo.rule(1, 5));
        Check.is("it is in the first one", 1, zoo.rule(zoo.cage(11), 7));
        Check.is("the second one is free", -1, zoo.cage(12));
        zoo.pass(1);
        Check.is("without a meal on this day", 2, zoo.rule(1, 10));
        Check.is("nothing in store", 0, zoo.rule(1, 5));
        Check.is("in the second one", 1, zoo.rule(zoo.cage(12), 7));
        Check.is("the offspring in the first one ate", 1, zoo.rule(zoo.cage(11), 6));
    }

    private static void noOffspringBehindSixty() {
        RuleZoo zoo = new RuleZoo();
        for (int rule = 0; rule < 55; rule++) {
            zoo.come(0, 0, 1);
            zoo.free(rule);
        }
        zoo.come(4, 1, 12);
        zoo.come(5, 4, 11);
        zoo.come(3, 4, 11);
        zoo.come(6, 4, 11);
        Check.is("pass(2)", 2, zoo.pass(2));
        Check.is("the 60th is born", 59, zoo.cage(5));
        Check.is("in all", 60, zoo.count(2));
        Check.is("its parent has offspring", 1, zoo.rule(55, 10));
        zoo.pass(1);
        Check.is("it ate on", 3, zoo.rule(55, 6));
        Check.is("in store", 1, zoo.rule(55, 5));
        RuleZoo full = new RuleZoo();
        for (int rule = 0; rule < 57; rule++) {
            full.come(0, 0, 1);
            full.free(rule);
        }
        full.come(4, 1, 12);
        full.come(5, 4, 11);
        full.come(3, 4, 11);
        Check.is("pass(3)", 2, full.pass(3));
        Check.is("none is born", 60, full.count(2));
        Check.is("it keeps its store", 2, full.rule(57, 5));
        Check.is("it has no offspring", 0, full.rule(57, 10));
        Check.is("none was born", 0, full.count(6));
    }

    private static void oneOffspringADay() {
        RuleZoo zoo = new RuleZoo();
        zoo.come(10, 1, 12);
        int[] around = {11, 9, 12, 8, 13, 7};
        for (int cage : around) {
            zoo.come(cage, 4, 11);
        }
        int[] stores = {1, 0, 1, 0, 1, 0};
        for (int day = 0; day < 6; day++) {
            zoo.pass(1);
            Check.is("in store behind the day " + day, stores[day], zoo.rule(0, 5));
            Check.is("offspring behind the day " + day, (day + 1) / 2, zoo.rule(0, 10));
        }
    }

    private static void theBornDoNotAgeNorBear() {
        RuleZoo zoo = breeder();
        zoo.pass(2);
        Check.is("the age of the born one", 0, zoo.rule(3, 4));
        Check.is("the age of its parent", 2, zoo.rule(0, 4));
        Check.is("its hunger", 0, zoo.rule(3, 3));
        zoo.pass(1);
        Check.is("a day behind", 1, zoo.rule(3, 4));
        Check.is("hungry by then", 1, zoo.rule(3, 3));
        Check.is("the day", 3, zoo.count(0));
    }
}
