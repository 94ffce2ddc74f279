import java.math.BigInteger;

/** Each row of the document that says what is answered at an edge. */
public final class EdgesOfAnswersTest {
    /**
     * The longest that a search through some thousand millions of zoos found: a rule, 1, that lives for 49 days, and a
     * zoo that ends behind 52, with none. No run of calls that is known comes to the 100 days behind which the answer
     * is -1; for lives() there is none (NOTES.md tells why).
     */
    private static final String LIVES_LONG = "come 18 4 13;come 16 4 9;come 15 1 9;come 5 4 9;come 2 5 12;"
            + "come 11 5 14;come 13 4 12;come 14 4 14;come 7 1 1;come 17 0 14;pass 1;come 6 5 15;come 3 4 3;"
            + "alter 1 1;alter 2 1;pass 1;come 4 4 1;come 19 1 2;come 17 2 15;come 0 0 5;come 10 2 15;come 9 4 9;"
            + "come 8 3 6;come 1 5 15;alter 1 15;alter 3 1;pass 1;move 6 6;move 1 13;move 8 12;move 15 16;move 2 0;"
            + "move 16 15;move 3 10;move 17 1;move 18 3;move 13 8;move 4 19;move 0 2;move 12 18;move 7 4;move 0 14;"
            + "move 5 2;move 14 11;move 5 17;come 7 4 9;come 9 5 5;come 5 1 2;alter 1 9;feed 1;alter 2 9;feed 2;"
            + "alter 3 9;feed 4;feed 5;alter 12 9;alter 15 8;feed 16";
    private static final String ENDS_LATEST = "come 11 5 12;come 3 3 10;come 17 4 1;pass 1;come 19 3 6;come 15 5 3;"
            + "come 10 4 1;come 6 4 14;come 13 3 14;come 12 1 3;come 8 0 11;come 9 4 14;come 2 3 2;come 0 4 1;"
            + "come 18 4 1;come 1 5 7;come 14 3 1;alter 1 12;pass 1;move 4 3;move 8 15;move 6 12;move 3 6;move 9 14;"
            + "move 10 11;move 12 16;move 13 9;move 14 17;move 5 0;move 7 10;move 5 13;come 4 3 14;come 18 3 14;"
            + "come 0 1 5;come 19 4 15;come 7 4 12;come 5 4 7;come 8 3 2;come 1 1 1;feed 3;alter 5 8;alter 12 8;"
            + "alter 13 7";

    /** It ends behind 46 days, with one that is born later, 29. */
    private static final String ENDS_LATE = "come 17 4 10;come 6 3 2;pass 1;come 10 0 15;pass 1;come 11 5 8;come 2 4 9;"
            + "come 3 3 12;come 13 5 13;come 0 4 13;move 1 18;alter 0 14;come 12 0 5;come 14 4 11;alter 7 8;come 15 4 4;"
            + "come 9 0 12;come 19 4 11;come 4 5 13;come 16 3 2;alter 14 12;come 6 0 4;come 5 0 13;alter 10 9;come 1 5 7";

    /** The rule 7 lives for 39 days in its own cage, 18, and for 40 or more in the free cage 17. */
    private static final String BETTER_BY_A_DAY = "come 19 0 6;come 15 0 10;come 12 5 4;come 17 3 1;come 5 3 12;"
            + "come 3 5 4;come 8 4 9;pass 1;come 18 4 15;come 0 1 8;come 4 4 14;pass 1;pass 1;come 0 0 9;come 14 4 2;"
            + "come 11 4 15;alter 11 7;alter 9 10;alter 7 3;come 1 4 3;pass 1;come 3 0 15;come 16 3 9;come 10 4 7;"
            + "alter 14 14;alter 0 3;alter 7 7;come 2 5 15;come 6 4 6;alter 10 13;come 9 4 14;alter 4 8;alter 13 9;"
            + "come 13 0 15";

    /** The rule 3 lives for 19 days in its own cage, 6, for 40 in the free cage 17, and for 41 in the free cage 18. */
    private static final String AS_GOOD_AS_FORTY = "come 8 5 9;come 17 4 9;come 4 0 2;pass 1;come 6 4 1;come 12 3 6;"
            + "come 15 4 1;come 5 0 15;come 1 4 9;come 0 3 11;come 16 4 11;come 2 4 15;come 3 4 1;pass 1;alter 3 15;"
            + "alter 5 15;alter 11 15;pass 2;come 11 1 5;pass 1;feed 11;pass 2;come 14 4 9;come 4 4 12;come 13 3 5;"
            + "come 19 0 2;alter 3 9;feed 3;alter 5 8;feed 7;feed 9;alter 10 8;feed 10;alter 11 9";

    public static void main(String[] args) {
        aNewZooIsEmptyOnTheDayZero();
        comeTellsTheNextNumber();
        moveTellsTheCageBefore();
        feedTellsTheHungerBefore();
        feedingIsNoMeal();
        alterTellsTheNumberBefore();
        freeTellsTheAge();
        ruleTellsTheLeastAndTheGreatest();
        ruleTellsAllMealsAndOffspring();
        ruleTellsNoParent();
        ruleTellsNoCage();
        ruleTellsHowItWent();
        ruleTellsNoEater();
        ruleTellsOfTheGoneAsTheyWent();
        cageTellsNone();
        countOfNone();
        countOfAFullZoo();
        countOfTheGone();
        countOfTheBornThatAreGone();
        countOfTheKinds();
        mayWhereverTheyAre();
        mayNotItself();
        preyOfOneWithoutOrGone();
        huntersOfNoneAndOfTheGone();
        chainOfTheGone();
        chainTillOneHasNone();
        chainTillItIsInTheRow();
        passTellsNone();
        passTellsThoseThatWereBorn();
        passTellsNotThoseBefore();
        passOfOneAndOfFiftyDays();
        foreseeChangesNothing();
        foreseeOfOneAndOfManyDays();
        livesOfTheGone();
        livesOfToday();
        livesForLong();
        endsNow();
        endsLate();
        lookingAheadChangesNothing();
        lastOfNone();
        lastOfOne();
        lastBehindLong();
        adviseOfTheGone();
        adviseItsOwnCage();
        adviseTheLeastNumber();
        adviseOnlyAFreeCage();
        adviseUpToFortyDays();
        adviseMoreThanFortyIsAsGood();
        meanOfNone();
        meanOfThoseThatAreThere();
        digestWrapsAround();
        Check.end();
    }

    /** On the day 10: 0 starved, 1 ate 2 and is there, 3 was let out. */
    private static RuleZoo goneInEachWay() {
        RuleZoo zoo = new RuleZoo();
        zoo.come(5, 0, 15);
        zoo.pass(9);
        zoo.come(0, 1, 9);
        zoo.come(1, 0, 4);
        zoo.come(10, 2, 15);
        zoo.pass(1);
        zoo.free(3);
        return zoo;
    }

    /** 0 in the cage 8 ate two that were 1 and 2, and has had an offspring, 3, in the cage 9. */
    private static RuleZoo family() {
        RuleZoo zoo = new RuleZoo();
        zoo.come(8, 1, 12);
        zoo.come(9, 4, 11);
        zoo.pass(1);
        zoo.come(9, 4, 11);
        zoo.pass(1);
        return zoo;
    }

    private static void rows(String when, RuleZoo zoo, int rule, int... due) {
        for (int what = 0; what < 12; what++) {
            Check.is(when + ", rule(" + rule + ", " + what + ")", due[what], zoo.rule(rule, what));
        }
    }

    // ---- rules that come and go

    /** "Creates a zoo of empty cages, on the day 0." */
    private static void aNewZooIsEmptyOnTheDayZero() {
        RuleZoo zoo = new RuleZoo();
        for (int cage = 0; cage < 20; cage++) {
            Check.is("new, cage(" + cage + ")", -1, zoo.cage(cage));
        }
        for (int what = 0; what < 9; what++) {
            Check.is("new, count(" + what + ")", what == 7 ? 20 : 0, zoo.count(what));
        }
        RuleZoo other = new RuleZoo();
        zoo.come(0, 0, 1);
        zoo.pass(1);
        Check.is("one zoo has nothing of another one", -1, other.cage(0));
        Check.is("nor its days", 0, other.count(0));
    }

    /** "Returns the number by which it is told": "numbered from 0 in the order of their coming or birth" */
    private static void comeTellsTheNextNumber() {
        RuleZoo zoo = new RuleZoo();
        Check.is("the first one", 0, zoo.come(19, 5, 15));
        Check.is("the second one", 1, zoo.come(0, 0, 1));
        zoo.free(1);
        Check.is("the number of one that is gone is not given again", 2, zoo.come(0, 0, 1));
        Check.is("behind one that was born", 4, family().come(0, 0, 1));
        RuleZoo many = new RuleZoo();
        for (int rule = 0; rule < 60; rule++) {
            Check.is("the next one", rule, many.come(3, 5, 15));
            many.free(rule);
        }
    }

    /** "Returns the cage where it was." */
    private static void moveTellsTheCageBefore() {
        RuleZoo zoo = new RuleZoo();
        zoo.come(0, 0, 15);
        Check.is("from 0 to 19", 0, zoo.move(0, 19));
        Check.is("cage(19)", 0, zoo.cage(19));
        Check.is("from 19 to 0", 19, zoo.move(0, 0));
        Check.is("cage(0)", 0, zoo.cage(0));
        Check.is("cage(19)", -1, zoo.cage(19));
        Check.is("its cage", 0, zoo.rule(0, 8));
    }

    /** "Returns its hunger before", and "it has no hunger then" */
    private static void feedTellsTheHungerBefore() {
        for (int hunger = 0; hunger <= 9; hunger++) {
            RuleZoo zoo = new RuleZoo();
            zoo.come(3, 0, 15);
            if (hunger > 0) {
                zoo.pass(hunger);
            }
            Check.is("the hunger before", hunger, zoo.feed(0));
            Check.is("no hunger then", 0, zoo.rule(0, 3));
            Check.is("fed again", 0, zoo.feed(0));
        }
    }

    /** "(this is no meal)" */
    private static void feedingIsNoMeal() {
        RuleZoo zoo = new RuleZoo();
        zoo.come(8, 1, 12);
        zoo.come(9, 4, 11);
        zoo.pass(1);
        zoo.feed(0);
        zoo.feed(0);
        Check.is("in store", 1, zoo.rule(0, 5));
        Check.is("all that it ate", 1, zoo.rule(0, 6));
        zoo.pass(1);
        Check.is("no offspring", 0, zoo.rule(0, 10));
        Check.is("it did not eat on this day", 1, zoo.rule(0, 3));
    }

    /** "Gives a rule another number of its own. Returns the one before." */
    private static void alterTellsTheNumberBefore() {
        RuleZoo zoo = new RuleZoo();
        zoo.come(3, 5, 1);
        Check.is("1 to 15", 1, zoo.alter(0, 15));
        Check.is("the code", 95, zoo.rule(0, 2));
        Check.is("15 to 15", 15, zoo.alter(0, 15));
        Check.is("15 to 1", 15, zoo.alter(0, 1));
        Check.is("its number", 1, zoo.rule(0, 1));
        Check.is("the code", 81, zoo.rule(0, 2));
    }

    /** "Returns its age." */
    private static void freeTellsTheAge() {
        RuleZoo zoo = new RuleZoo();
        for (int days = 0; days <= 9; days++) {
            int rule = zoo.come(3, 0, 15);
            if (days > 0) {
                zoo.pass(days);
            }
            Check.is("the age", days, zoo.free(rule));
            Check.is("its age for good", days, zoo.rule(rule, 4));
        }
        Check.is("one that was born on this day", 0, family().free(3));
        Check.is("its parent", 2, family().free(0));
    }

    // ---- rule

    /** "0 its kind, 1 its own number, 2 its code", for the least and the greatest. */
    private static void ruleTellsTheLeastAndTheGreatest() {
        RuleZoo zoo = new RuleZoo();
        zoo.come(19, 0, 1);
        zoo.come(0, 5, 15);
        zoo.come(10, 1, 15);
        rows("the least", zoo, 0, 0, 1, 1, 0, 0, 0, 0, -1, 19, 0, 0, -1);
        rows("the greatest", zoo, 1, 5, 15, 95, 0, 0, 0, 0, -1, 0, 0, 0, -1);
        Check.is("16 * 1 + 15", 31, zoo.rule(2, 2));
    }

    /** "5 its meals in store, 6 all that it ate .. 10 all its offspring": also of those that are gone. */
    private static void ruleTellsAllMealsAndOffspring() {
        RuleZoo zoo = family();
        rows("a parent", zoo, 0, 1, 12, 28, 0, 2, 0, 2, -1, 8, 0, 1, -1);
        rows("its offspring", zoo, 3, 1, 9, 25, 0, 0, 0, 0, 0, 9, 0, 0, -1);
        zoo.free(3);
        Check.is("all its offspring, also one that is gone", 1, zoo.rule(0, 10));
        for (int meal = 0; meal < 2; meal++) {
            zoo.come(9, 4, 11);
            zoo.pass(1);
        }
        rows("a parent of two", zoo, 0, 1, 12, 28, 0, 4, 0, 4, -1, 8, 0, 2, -1);
    }

    /** "7 its parent, -1 for none" */
    private static void ruleTellsNoParent() {
        RuleZoo zoo = family();
        Check.is("one that came", -1, zoo.rule(0, 7));
        Check.is("one that was eaten", -1, zoo.rule(1, 7));
        Check.is("one that was born, of 0", 0, zoo.rule(3, 7));
        zoo.free(0);
        Check.is("its parent is gone", 0, zoo.rule(3, 7));
        zoo.free(3);
        Check.is("both are gone", 0, zoo.rule(3, 7));
    }

    /** "8 its cage, -1 if it is gone" */
    private static void ruleTellsNoCage() {
        RuleZoo zoo = goneInEachWay();
        Check.is("starved", -1, zoo.rule(0, 8));
        Check.is("there, in the cage 0", 0, zoo.rule(1, 8));
        Check.is("eaten", -1, zoo.rule(2, 8));
        Check.is("let out", -1, zoo.rule(3, 8));
    }

    /** "9 0 if it is there, 1 if it was eaten, 2 if it starved, 3 if it was let out" */
    private static void ruleTellsHowItWent() {
        RuleZoo zoo = goneInEachWay();
        Check.is("starved", 2, zoo.rule(0, 9));
        Check.is("there", 0, zoo.rule(1, 9));
        Check.is("eaten", 1, zoo.rule(2, 9));
        Check.is("let out", 3, zoo.rule(3, 9));
    }

    /** "11 the one that ate it, -1 for none" */
    private static void ruleTellsNoEater() {
        RuleZoo zoo = goneInEachWay();
        Check.is("starved", -1, zoo.rule(0, 11));
        Check.is("there", -1, zoo.rule(1, 11));
        Check.is("eaten", 1, zoo.rule(2, 11));
        Check.is("let out", -1, zoo.rule(3, 11));
        zoo.free(1);
        Check.is("eaten by one that is gone", 1, zoo.rule(2, 11));
        Check.is("eaten by 0", 0, family().rule(1, 11));
    }

    /** "(of one that is gone as it was, when it went)" */
    private static void ruleTellsOfTheGoneAsTheyWent() {
        RuleZoo zoo = new RuleZoo();
        zoo.come(10, 1, 9);
        zoo.come(9, 1, 10);
        zoo.come(18, 0, 15);
        zoo.come(3, 2, 15);
        zoo.move(1, 2);
        zoo.pass(3);
        zoo.alter(0, 11);
        zoo.alter(1, 12);
        zoo.move(1, 9);
        zoo.come(11, 4, 8);
        zoo.alter(3, 14);
        zoo.free(3);
        zoo.pass(1);
        rows("eaten on the day on which it ate", zoo, 0, 1, 11, 27, 1, 3, 1, 1, -1, -1, 1, 0, 1);
        zoo.feed(1);
        zoo.pass(6);
        rows("starved", zoo, 2, 0, 15, 15, 10, 9, 0, 0, -1, -1, 2, 0, -1);
        zoo.pass(50);
        rows("eaten long ago", zoo, 0, 1, 11, 27, 1, 3, 1, 1, -1, -1, 1, 0, 1);
        rows("starved long ago", zoo, 2, 0, 15, 15, 10, 9, 0, 0, -1, -1, 2, 0, -1);
        rows("let out long ago", zoo, 3, 2, 14, 46, 3, 3, 0, 0, -1, -1, 3, 0, -1);
        RuleZoo parent = family();
        parent.free(0);
        parent.pass(5);
        rows("a parent that was let out", parent, 0, 1, 12, 28, 0, 2, 0, 2, -1, -1, 3, 1, -1);
    }

    // ---- cage and count

    /** "Returns the rule in it, -1 for none." */
    private static void cageTellsNone() {
        RuleZoo zoo = goneInEachWay();
        for (int cage = 0; cage < 20; cage++) {
            Check.is("cage(" + cage + ")", cage == 0 ? 1 : -1, zoo.cage(cage));
        }
        zoo.move(1, 19);
        for (int cage = 0; cage < 20; cage++) {
            Check.is("moved, cage(" + cage + ")", cage == 19 ? 1 : -1, zoo.cage(cage));
        }
        Check.is("one that was born", 3, family().cage(9));
    }

    private static void counts(String when, RuleZoo zoo, int... due) {
        for (int what = 0; what < 9; what++) {
            Check.is(when + ", count(" + what + ")", due[what], zoo.count(what));
        }
    }

    /** Each count of an empty zoo, new and with all gone. */
    private static void countOfNone() {
        counts("new", new RuleZoo(), 0, 0, 0, 0, 0, 0, 0, 20, 0);
        RuleZoo zoo = goneInEachWay();
        zoo.free(1);
        counts("all gone", zoo, 10, 0, 4, 1, 1, 2, 0, 20, 0);
    }

    /** Each count of a zoo without a free cage. */
    private static void countOfAFullZoo() {
        RuleZoo zoo = new RuleZoo();
        for (int cage = 0; cage < 20; cage++) {
            zoo.come(cage, cage % 2 == 0 ? 4 : 5, 15);
        }
        counts("full", zoo, 0, 20, 20, 0, 0, 0, 0, 0, 2);
        zoo.pass(9);
        counts("full on the day 9", zoo, 9, 20, 20, 0, 0, 0, 0, 0, 2);
        zoo.pass(1);
        counts("all starved at once", zoo, 10, 0, 20, 0, 20, 0, 0, 20, 0);
        RuleZoo sixty = new RuleZoo();
        for (int rule = 0; rule < 60; rule++) {
            sixty.come(7, 0, 1);
            sixty.free(rule);
        }
        counts("sixty let out", sixty, 0, 0, 60, 0, 0, 60, 0, 20, 0);
    }

    /** "3 rules that were eaten, 4 that starved, 5 that were let out": each one is counted once. */
    private static void countOfTheGone() {
        counts("one in each way", goneInEachWay(), 10, 1, 4, 1, 1, 1, 0, 19, 1);
    }

    /** "6 that were born": also those that are gone. */
    private static void countOfTheBornThatAreGone() {
        RuleZoo zoo = family();
        counts("one is born", zoo, 2, 2, 4, 2, 0, 0, 1, 18, 1);
        zoo.free(3);
        counts("it is let out", zoo, 2, 1, 4, 2, 0, 1, 1, 19, 1);
        zoo.free(0);
        counts("its parent too", zoo, 2, 0, 4, 2, 0, 2, 1, 20, 0);
    }

    /** "8 kinds of which a rule is there": 0 to 6. */
    private static void countOfTheKinds() {
        RuleZoo zoo = new RuleZoo();
        for (int kind = 5; kind >= 0; kind--) {
            zoo.come(kind, kind, 1);
            Check.is("kinds", 6 - kind, zoo.count(8));
            zoo.come(10 + kind, kind, 2);
            Check.is("the same kind again", 6 - kind, zoo.count(8));
        }
        for (int kind = 0; kind < 6; kind++) {
            zoo.free(zoo.cage(kind));
            Check.is("one of the kind is there still", 6 - kind, zoo.count(8));
            zoo.free(zoo.cage(10 + kind));
            Check.is("none of the kind is there", 5 - kind, zoo.count(8));
        }
    }

    // ---- may, prey, hunters and chain

    /** "wherever they are" */
    private static void mayWhereverTheyAre() {
        RuleZoo zoo = new RuleZoo();
        zoo.come(0, 1, 9);
        zoo.come(1, 1, 8);
        for (int cage = 2; cage < 20; cage++) {
            zoo.move(1, cage);
            Check.isTrue("from 0 to " + cage, zoo.may(0, 1));
            Check.isFalse("from " + cage + " to 0", zoo.may(1, 0));
        }
    }

    /** "false for the same one" */
    private static void mayNotItself() {
        RuleZoo zoo = new RuleZoo();
        zoo.come(0, 0, 1);
        zoo.come(7, 3, 3);
        zoo.come(14, 4, 1);
        zoo.pass(5);
        for (int rule = 0; rule < 3; rule++) {
            Check.is("may " + rule + " eat itself", 0, zoo.may(rule, rule) ? 1 : 0);
            Check.is("its prey", -1, zoo.prey(rule));
        }
        RuleZoo pair = new RuleZoo();
        pair.come(0, 3, 3);
        pair.come(1, 3, 3);
        Check.isTrue("but another one like it", pair.may(0, 1));
        pair.free(0);
        Check.isFalse("one that is gone", pair.may(0, 0));
    }

    /** "Returns its prey now, -1 without one, or if it is gone." */
    private static void preyOfOneWithoutOrGone() {
        RuleZoo zoo = goneInEachWay();
        Check.is("without one, alone", -1, zoo.prey(1));
        zoo.come(4, 0, 1);
        Check.is("without one, too far", -1, zoo.prey(1));
        zoo.come(3, 0, 1);
        Check.is("with one", 5, zoo.prey(1));
        for (int rule : new int[] {0, 2, 3}) {
            Check.is("gone", -1, zoo.prey(rule));
        }
        zoo.free(5);
        zoo.free(1);
        Check.is("gone, with one that it might have eaten", -1, zoo.prey(1));
        zoo.come(0, 1, 9);
        zoo.come(1, 0, 9);
        Check.is("without one, beside one that it may not eat", -1, zoo.prey(6));
    }

    /** "Returns how many rules there are now whose prey it is." */
    private static void huntersOfNoneAndOfTheGone() {
        RuleZoo zoo = goneInEachWay();
        for (int rule = 0; rule < 4; rule++) {
            Check.is("none", 0, zoo.hunters(rule));
        }
        RuleZoo six = new RuleZoo();
        six.come(0, 0, 1);
        int[] around = {1, 19, 2, 18, 3, 17};
        for (int i = 0; i < 6; i++) {
            six.come(around[i], 3, 6);
            Check.is("hunters", i + 1, six.hunters(0));
        }
        six.come(4, 3, 6);
        Check.is("one that is too far", 6, six.hunters(0));
        six.come(5, 0, 2);
        Check.is("3 has another prey before, 2 and 1 have not", 5, six.hunters(0));
        Check.is("the other one's", 2, six.hunters(8));
        six.free(1);
        Check.is("one that is gone hunts no more", 4, six.hunters(0));
        six.free(0);
        Check.is("none hunts one that is gone", 0, six.hunters(0));
    }

    /** "0 if it is gone" */
    private static void chainOfTheGone() {
        RuleZoo zoo = goneInEachWay();
        Check.is("there", 1, zoo.chain(1));
        for (int rule : new int[] {0, 2, 3}) {
            Check.is("gone", 0, zoo.chain(rule));
        }
    }

    /** "till one has none" */
    private static void chainTillOneHasNone() {
        RuleZoo zoo = new RuleZoo();
        for (int at = 0; at < 15; at++) {
            zoo.come((10 + at) % 20, 1, 15 - at);
        }
        for (int at = 0; at < 15; at++) {
            Check.is("chain(" + at + ")", 15 - at, zoo.chain(at));
        }
        zoo.free(14);
        Check.is("the last one has none", 1, zoo.chain(13));
        Check.is("the row is shorter", 14, zoo.chain(0));
    }

    /** "or its prey is in the row already": the first one of it, or another one. */
    private static void chainTillItIsInTheRow() {
        RuleZoo ring = new RuleZoo();
        for (int cage = 0; cage < 20; cage++) {
            ring.come(cage, 3, 3);
        }
        for (int rule = 0; rule < 20; rule++) {
            Check.is("all twenty", 20, ring.chain(rule));
        }
        RuleZoo late = new RuleZoo();
        for (int rule = 0; rule < 55; rule++) {
            late.come(0, 0, 1);
            late.free(rule);
        }
        late.come(0, 1, 15);
        late.come(1, 1, 14);
        late.come(2, 1, 13);
        late.come(3, 2, 12);
        Check.is("the prey of the last one is in the row", 57, late.prey(58));
        Check.is("another one than the first", 4, late.chain(55));
        Check.is("from it", 2, late.chain(58));
        Check.is("to it", 3, late.chain(56));
    }

    // ---- pass and foresee

    /** "Returns how many rules are gone by them": 0 if none. */
    private static void passTellsNone() {
        RuleZoo zoo = new RuleZoo();
        Check.is("none is there", 0, zoo.pass(1));
        Check.is("none is there for long", 0, zoo.pass(50));
        zoo.come(0, 0, 15);
        Check.is("none goes", 0, zoo.pass(9));
        Check.is("one goes", 1, zoo.pass(1));
        Check.is("none is there again", 0, zoo.pass(50));
    }

    /** "(also those that were born in them)" */
    private static void passTellsThoseThatWereBorn() {
        RuleZoo zoo = new RuleZoo();
        zoo.come(8, 1, 12);
        zoo.come(9, 4, 11);
        zoo.come(7, 4, 11);
        Check.is("two eaten, the eater and its offspring starved", 4, zoo.pass(50));
        Check.is("one was born", 1, zoo.count(6));
        RuleZoo eaten = new RuleZoo();
        eaten.come(8, 1, 12);
        eaten.come(9, 4, 11);
        eaten.come(7, 4, 11);
        eaten.come(12, 1, 15);
        Check.is("two eaten, and the offspring on the next day", 3, eaten.pass(3));
        Check.is("it was eaten", 1, eaten.rule(4, 9));
        Check.is("there", 2, eaten.count(1));
    }

    /** "gone by them": not before. */
    private static void passTellsNotThoseBefore() {
        RuleZoo zoo = goneInEachWay();
        Check.is("three were gone before", 0, zoo.pass(1));
        zoo.free(1);
        Check.is("four were gone before", 0, zoo.pass(50));
    }

    /** "1 to 50": each of these days goes by. */
    private static void passOfOneAndOfFiftyDays() {
        RuleZoo once = Calls.zooBy(ENDS_LATE);
        RuleZoo daily = Calls.zooBy(ENDS_LATE);
        int gone = 0;
        for (int day = 1; day <= 50; day++) {
            gone += daily.pass(1);
        }
        Check.is("gone in 50 days", gone, once.pass(50));
        Check.is("the day", 52, once.count(0));
        Check.is("the same zoo then", daily.digest(), once.digest());
        Check.is("one is there behind 50 days", 1, once.count(1));
    }

    /** "(nothing is changed)" */
    private static void foreseeChangesNothing() {
        RuleZoo zoo = family();
        zoo.come(12, 1, 15);
        RuleZoo twin = family();
        twin.come(12, 1, 15);
        for (int days : new int[] {1, 2, 9, 10, 50}) {
            for (int what = 0; what < 4; what++) {
                int asked = what;
                long told = twin.foresee(days, what);
                Check.tells(zoo, "foresee(" + days + ", " + what + ")", told, () -> zoo.foresee(days, asked));
            }
        }
        RuleZoo never = family();
        never.come(12, 1, 15);
        Check.same("foreseen", never, zoo);
    }

    /** "if nothing is done": what pass() brings, behind 1 day, behind 50, and behind each one between them. */
    private static void foreseeOfOneAndOfManyDays() {
        RuleZoo zoo = Calls.zooBy(ENDS_LATE);
        RuleZoo then = Calls.zooBy(ENDS_LATE);
        for (int days = 1; days <= 50; days++) {
            then.pass(1);
            Check.is("there in " + days, then.count(1), zoo.foresee(days, 0));
            Check.is("eaten in all in " + days, then.count(3), zoo.foresee(days, 1));
            Check.is("in all in " + days, then.count(2), zoo.foresee(days, 2));
            Check.is("hunger in " + days, hungerOfAll(then), zoo.foresee(days, 3));
        }
        Check.is("the hunger of the last one in 49 days", 7, zoo.foresee(49, 3));
        Check.is("the hunger of the last one in 50 days", 8, zoo.foresee(50, 3));
        Check.is("none is there", 0, new RuleZoo().foresee(50, 0));
        Check.is("no hunger of none", 0, new RuleZoo().foresee(1, 3));
        Check.is("those that are gone have no part in the hunger", 0, goneInEachWay().foresee(10, 3));
        Check.is("eaten in all, also before", 1, goneInEachWay().foresee(1, 1));
        Check.is("in all, also those that are gone", 4, goneInEachWay().foresee(50, 2));
    }

    private static long hungerOfAll(RuleZoo zoo) {
        return Math.round(zoo.mean() * zoo.count(1));
    }

    // ---- lives, ends and last

    /** "0 if it is now" */
    private static void livesOfTheGone() {
        RuleZoo zoo = goneInEachWay();
        for (int rule : new int[] {0, 2, 3}) {
            Check.is("gone", 0, zoo.lives(rule));
        }
        Check.is("there", 10, zoo.lives(1));
        zoo.free(1);
        Check.is("gone just now", 0, zoo.lives(1));
    }

    /** "behind how many days it is gone": 1 if on the first one. */
    private static void livesOfToday() {
        RuleZoo zoo = new RuleZoo();
        zoo.come(0, 0, 15);
        for (int days = 10; days >= 1; days--) {
            Check.is("starves", days, zoo.lives(0));
            Check.is("it is there", 0, zoo.pass(1) - (days == 1 ? 1 : 0));
        }
        Check.is("gone", 0, zoo.lives(0));
        zoo.come(5, 1, 9);
        zoo.come(6, 1, 8);
        Check.is("eaten on the first day", 1, zoo.lives(2));
        Check.is("a meal more", 11, zoo.lives(1));
    }

    /** "at most 100; -1 if not by then": the longest that is known. */
    private static void livesForLong() {
        RuleZoo zoo = Calls.zooBy(LIVES_LONG);
        RuleZoo then = Calls.zooBy(LIVES_LONG);
        for (int days = 49; days > 0; days--) {
            Check.is("lives", days, then.lives(1));
            Check.is("it is there", 0, then.rule(1, 9));
            then.pass(1);
        }
        Check.is("it starved", 2, then.rule(1, 9));
        Check.is("lives no more", 0, then.lives(1));
        Check.is("two there behind 48 days", 2, zoo.foresee(48, 0));
        Check.is("one behind 49 days", 1, zoo.foresee(49, 0));
        Check.is("49 days", 49, zoo.lives(1));
    }

    /** "behind how many days at most one rule is there .. 0 if so now" */
    private static void endsNow() {
        RuleZoo zoo = new RuleZoo();
        Check.is("none", 0, zoo.ends());
        zoo.come(0, 1, 9);
        Check.is("one", 0, zoo.ends());
        zoo.come(1, 1, 8);
        Check.is("two, one eats the other one", 1, zoo.ends());
        zoo.move(1, 10);
        Check.is("two that starve", 10, zoo.ends());
        zoo.pass(9);
        Check.is("on the last day", 1, zoo.ends());
        zoo.pass(1);
        Check.is("none is there", 0, zoo.ends());
        Check.is("one is there", 0, goneInEachWay().ends());
    }

    /** "at most 100; -1 if not by then": the longest that is known. */
    private static void endsLate() {
        endsBehind(46, 1, Calls.zooBy(ENDS_LATE));
        endsBehind(52, 0, Calls.zooBy(ENDS_LATEST));
    }

    private static void endsBehind(int mostDays, int thereThen, RuleZoo zoo) {
        for (int days = mostDays; days > 0; days--) {
            Check.is("ends", days, zoo.ends());
            Check.isTrue("more than one are there", zoo.count(1) > 1);
            zoo.pass(1);
        }
        Check.is("there then", thereThen, zoo.count(1));
        Check.is("now", 0, zoo.ends());
    }

    /** "(nothing is changed)": by lives, ends, last and advise. */
    private static void lookingAheadChangesNothing() {
        RuleZoo zoo = Calls.zooBy(BETTER_BY_A_DAY);
        for (int rule = 0; rule < zoo.count(2); rule++) {
            int asked = rule;
            Check.tells(zoo, "lives(" + rule + ")", zoo.lives(rule), () -> zoo.lives(asked));
            Check.tells(zoo, "advise(" + rule + ")", zoo.advise(rule), () -> zoo.advise(asked));
        }
        Check.tells(zoo, "ends()", 37, zoo::ends);
        Check.tells(zoo, "last()", 7, zoo::last);
        RuleZoo never = Calls.zooBy(BETTER_BY_A_DAY);
        for (int day = 1; day <= 45; day++) {
            Check.is("gone", never.pass(1), zoo.pass(1));
            Check.is("digest", never.digest(), zoo.digest());
        }
    }

    /** "-1 if none is there then" */
    private static void lastOfNone() {
        RuleZoo zoo = new RuleZoo();
        Check.is("none is there", -1, zoo.last());
        zoo.come(0, 2, 15);
        zoo.come(10, 2, 15);
        Check.is("both starve on one day", 10, zoo.ends());
        Check.is("none is there then", -1, zoo.last());
        zoo.pass(10);
        Check.is("all are gone", -1, zoo.last());
    }

    /** "the only one that is there behind the days that ends() tells" */
    private static void lastOfOne() {
        RuleZoo zoo = new RuleZoo();
        zoo.come(0, 2, 15);
        Check.is("one is there, and starves later", 0, zoo.last());
        zoo.pass(1);
        zoo.come(10, 2, 15);
        Check.is("one starves a day before", 9, zoo.ends());
        Check.is("the other one", 1, zoo.last());
        zoo.free(1);
        Check.is("the one that is there now", 0, zoo.last());
        zoo.come(1, 1, 9);
        zoo.come(3, 1, 8);
        zoo.free(0);
        Check.is("one eats the other one", 1, zoo.ends());
        Check.is("the eater", 2, zoo.last());
    }

    /** "the only one ..": also one that is not born yet, behind the longest time that is known. */
    private static void lastBehindLong() {
        RuleZoo zoo = Calls.zooBy(ENDS_LATE);
        Check.is("rules in all", 18, zoo.count(2));
        Check.is("one that is born later", 29, zoo.last());
        zoo.pass(46);
        Check.is("it is there", 0, zoo.rule(29, 9));
        Check.is("alone", 1, zoo.count(1));
        Check.is("now", 29, zoo.last());
        RuleZoo other = Calls.zooBy(LIVES_LONG);
        Check.is("ends behind 49 days", 49, other.ends());
        Check.is("another one that is born later", 42, other.last());
        RuleZoo none = Calls.zooBy(ENDS_LATEST);
        Check.is("none behind 52 days", -1, none.last());
        none.pass(50);
        Check.is("none behind the last two", -1, none.last());
        none.free(none.cage(firstCage(none)));
        Check.is("the other one, if one is let out", none.cage(firstCage(none)), none.last());
    }

    /** The first cage that is not free. */
    private static int firstCage(RuleZoo zoo) {
        int cage = 0;
        while (cage < 19 && zoo.cage(cage) == -1) {
            cage++;
        }
        return cage;
    }

    // ---- advise

    /** "-1 if it is gone" */
    private static void adviseOfTheGone() {
        RuleZoo zoo = goneInEachWay();
        for (int rule : new int[] {0, 2, 3}) {
            Check.is("gone", -1, zoo.advise(rule));
        }
        Check.is("there", 0, zoo.advise(1));
    }

    /** "of several its own one" */
    private static void adviseItsOwnCage() {
        for (int cage = 0; cage < 20; cage++) {
            RuleZoo zoo = new RuleZoo();
            zoo.come(cage, 0, 15);
            Check.is("alone in " + cage, cage, zoo.advise(0));
        }
    }

    /** "or else the one with the least number" */
    private static void adviseTheLeastNumber() {
        for (int hunter = 0; hunter < 20; hunter++) {
            RuleZoo zoo = new RuleZoo();
            zoo.come(hunter, 1, 9);
            zoo.come((hunter + 1) % 20, 0, 8);
            int least = 0;
            while (Math.min((least - hunter + 20) % 20, (hunter - least + 20) % 20) <= 3) {
                least++;
            }
            Check.is("away from " + hunter, least, zoo.advise(1));
            Check.is("the hunter stays", hunter, zoo.advise(0));
        }
    }

    /** "its own one, or one that is free" */
    private static void adviseOnlyAFreeCage() {
        RuleZoo zoo = new RuleZoo();
        zoo.come(5, 1, 9);
        zoo.come(6, 0, 8);
        int[] far = {0, 1, 9, 10, 11, 12, 13, 14, 15, 16, 17, 18};
        for (int cage : far) {
            int next = cage;
            Check.is("the first that is free", next, zoo.advise(1));
            zoo.come(cage, 4, 15);
        }
        Check.is("the last that is free", 19, zoo.advise(1));
        zoo.come(19, 4, 15);
        Check.is("none is free that is better", 6, zoo.advise(1));
        for (int cage : new int[] {2, 3, 4, 7, 8}) {
            zoo.come(cage, 4, 15);
        }
        Check.is("none is free", 6, zoo.advise(1));
        Check.is("none is free for the hunter", 5, zoo.advise(0));
    }

    /** "at most 40 days (more, or -1, are as good as 40)" */
    private static void adviseUpToFortyDays() {
        RuleZoo zoo = Calls.zooBy(BETTER_BY_A_DAY);
        Check.is("39 days", 39, zoo.lives(7));
        Check.is("in the cage 17 it is a day more", 17, zoo.advise(7));
        zoo.move(7, 17);
        Check.is("40 days", 40, zoo.lives(7));
        Check.is("it stays there", 17, zoo.advise(7));
    }

    /** "(more, or -1, are as good as 40); of several its own one, or else the one with the least number" */
    private static void adviseMoreThanFortyIsAsGood() {
        RuleZoo zoo = Calls.zooBy(AS_GOOD_AS_FORTY);
        Check.is("19 days", 19, zoo.lives(3));
        Check.is("of 40 and 41 days the least number", 17, zoo.advise(3));
        zoo.move(3, 17);
        Check.is("40 days", 40, zoo.lives(3));
        Check.is("its own one, though it is 41 days in 18", 17, zoo.advise(3));
        zoo.move(3, 18);
        Check.is("41 days", 41, zoo.lives(3));
        Check.is("its own one, though 17 is less", 18, zoo.advise(3));
        zoo.move(3, 10);
        Check.is("less than 40 days", 16, zoo.lives(3));
        Check.is("the least number again", 17, zoo.advise(3));
    }

    // ---- mean and digest

    /** "0 if none is" */
    private static void meanOfNone() {
        RuleZoo zoo = new RuleZoo();
        Check.isDouble("new", 0.0, zoo.mean());
        zoo.come(0, 0, 15);
        Check.isDouble("no hunger", 0.0, zoo.mean());
        zoo.pass(9);
        Check.isDouble("the greatest", 9.0, zoo.mean());
        zoo.pass(1);
        Check.isDouble("starved", 0.0, zoo.mean());
        RuleZoo out = goneInEachWay();
        out.free(1);
        Check.isDouble("all gone", 0.0, out.mean());
    }

    /** "the mean hunger of rules that are there", not of those that are gone, and not a whole number. */
    private static void meanOfThoseThatAreThere() {
        RuleZoo zoo = new RuleZoo();
        zoo.come(0, 0, 15);
        zoo.pass(1);
        zoo.come(10, 0, 15);
        Check.isDouble("1 and 0", 0.5, zoo.mean());
        zoo.come(5, 0, 15);
        Check.isDouble("1, 0 and 0", 1.0 / 3, zoo.mean());
        zoo.free(0);
        Check.isDouble("0 and 0", 0.0, zoo.mean());
        zoo.pass(9);
        Check.isDouble("9 and 9", 9.0, zoo.mean());
    }

    /** "which wraps around as a 64-bit integer", and takes in also those that are gone. */
    private static void digestWrapsAround() {
        Check.is("of a new zoo", 2990903743036650575L, new RuleZoo().digest());
        RuleZoo[] zoos = {new RuleZoo(), goneInEachWay(), family(), Calls.zooBy(ENDS_LATE)};
        for (RuleZoo zoo : zoos) {
            Check.is("wrapped", told(zoo).longValue(), zoo.digest());
        }
        Check.is("of four, three of them gone", 6305749096510594763L, goneInEachWay().digest());
    }

    /** The checksum without an end, so that its lowest 64 bits are those that wrapped around. */
    private static BigInteger told(RuleZoo zoo) {
        BigInteger d = BigInteger.valueOf(1021);
        for (int what = 0; what < 9; what++) {
            d = next(d, zoo.count(what));
        }
        for (int cage = 0; cage < 20; cage++) {
            d = next(d, zoo.cage(cage));
        }
        for (int rule = 0; rule < zoo.count(2); rule++) {
            for (int what = 0; what < 12; what++) {
                d = next(d, zoo.rule(rule, what));
            }
        }
        return d;
    }

    private static BigInteger next(BigInteger d, int x) {
        return d.multiply(BigInteger.valueOf(31)).add(BigInteger.valueOf(x));
    }
}
