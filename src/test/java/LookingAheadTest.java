/** Promises 15 to 21: foresee, lives, ends, last, advise, mean, digest. */
public final class LookingAheadTest {
    public static void main(String[] args) {
        foreseeTellsWhatPassBrings();
        foreseeOfOneThatBears();
        livesTellsTheDay();
        livesOfOneThatIsFed();
        endsAndLastOfFew();
        endsAndLastOfAPair();
        endsOfThoseThatAreFed();
        adviseTakesAFreeCage();
        adviseStaysWhenNoneIsBetter();
        adviseTakesTheLeastNumber();
        meanTells();
        digestTells();
        Check.end();
    }

    private static void foreseeTellsWhatPassBrings() {
        RuleZoo zoo = new RuleZoo();
        zoo.come(0, 1, 9);
        zoo.come(1, 1, 8);
        zoo.come(10, 1, 8);
        zoo.come(12, 1, 8);
        foreseen("in a day", zoo, 1, 3, 1, 4, 2);
        foreseen("in nine days", zoo, 9, 3, 1, 4, 9 + 9 + 8);
        foreseen("in ten days", zoo, 10, 1, 1, 4, 9);
        foreseen("in fifty days", zoo, 50, 0, 1, 4, 0);
        Check.is("pass(9)", 1, zoo.pass(9));
        foreseen("in a day from there", zoo, 1, 1, 1, 4, 9);
    }

    private static void foreseen(String when, RuleZoo zoo, int days, int... due) {
        for (int what = 0; what < 4; what++) {
            int asked = what;
            Check.tells(zoo, when + ", foresee(.., " + what + ")", due[what], () -> zoo.foresee(days, asked));
        }
    }

    private static void foreseeOfOneThatBears() {
        RuleZoo zoo = new RuleZoo();
        zoo.come(5, 1, 12);
        zoo.come(6, 0, 11);
        zoo.come(4, 0, 11);
        foreseen("a day", zoo, 1, 2, 1, 3, 1);
        foreseen("two days", zoo, 2, 2, 2, 4, 0);
        foreseen("three days", zoo, 3, 2, 2, 4, 2);
    }

    private static void livesTellsTheDay() {
        RuleZoo zoo = new RuleZoo();
        zoo.come(0, 1, 9);
        zoo.come(1, 1, 8);
        zoo.come(2, 2, 15);
        Check.tells(zoo, "one that eats", 11, () -> zoo.lives(0));
        Check.tells(zoo, "one that is eaten", 1, () -> zoo.lives(1));
        Check.tells(zoo, "one that starves", 10, () -> zoo.lives(2));
        zoo.pass(1);
        Check.tells(zoo, "one that eats, a day behind", 10, () -> zoo.lives(0));
        Check.tells(zoo, "one that is gone", 0, () -> zoo.lives(1));
        zoo.feed(0);
        zoo.free(2);
        Check.tells(zoo, "fed", 10, () -> zoo.lives(0));
        Check.tells(zoo, "let out", 0, () -> zoo.lives(2));
    }

    private static void livesOfOneThatIsFed() {
        RuleZoo zoo = new RuleZoo();
        zoo.come(0, 0, 1);
        zoo.pass(9);
        Check.tells(zoo, "its last day", 1, () -> zoo.lives(0));
        zoo.feed(0);
        Check.tells(zoo, "fed", 10, () -> zoo.lives(0));
        Check.is("it goes then", 1, zoo.pass(10));
    }

    private static void endsAndLastOfFew() {
        RuleZoo zoo = new RuleZoo();
        Check.tells(zoo, "ends, none", 0, zoo::ends);
        Check.tells(zoo, "last, none", -1, zoo::last);
        zoo.come(3, 1, 9);
        Check.tells(zoo, "ends, one", 0, zoo::ends);
        Check.tells(zoo, "last, one", 0, zoo::last);
        zoo.come(4, 1, 8);
        zoo.free(0);
        Check.tells(zoo, "ends, one of two", 0, zoo::ends);
        Check.tells(zoo, "last, one of two", 1, zoo::last);
    }

    private static void endsAndLastOfAPair() {
        RuleZoo zoo = new RuleZoo();
        zoo.come(3, 1, 9);
        zoo.come(13, 1, 8);
        Check.tells(zoo, "ends, both starve", 10, zoo::ends);
        Check.tells(zoo, "last, both starve", -1, zoo::last);
        zoo.pass(1);
        zoo.feed(1);
        Check.tells(zoo, "ends, one starves before", 9, zoo::ends);
        Check.tells(zoo, "last, one starves before", 1, zoo::last);
        zoo.move(1, 5);
        Check.tells(zoo, "ends, one eats", 1, zoo::ends);
        Check.tells(zoo, "last, one eats", 0, zoo::last);
    }

    private static void endsOfThoseThatAreFed() {
        RuleZoo zoo = new RuleZoo();
        zoo.come(1, 1, 9);
        zoo.come(11, 1, 9);
        for (int days = 1; days <= 9; days++) {
            zoo.pass(1);
            zoo.feed(0);
            zoo.feed(1);
            Check.tells(zoo, "ends", 10, zoo::ends);
        }
    }

    private static void adviseTakesAFreeCage() {
        RuleZoo zoo = new RuleZoo();
        zoo.come(5, 1, 9);
        zoo.come(6, 1, 8);
        Check.tells(zoo, "eaten where it is: the first cage from which 5 is far", 0, () -> zoo.advise(1));
        Check.tells(zoo, "with prey", 5, () -> zoo.advise(0));
        zoo.come(0, 4, 9);
        zoo.come(1, 4, 9);
        Check.tells(zoo, "0 and 1 have rules: the first one free and far", 9, () -> zoo.advise(1));
        zoo.free(1);
        Check.tells(zoo, "gone", -1, () -> zoo.advise(1));
    }

    private static void adviseStaysWhenNoneIsBetter() {
        RuleZoo zoo = new RuleZoo();
        zoo.come(7, 0, 15);
        Check.tells(zoo, "alone", 7, () -> zoo.advise(0));
        for (int cage = 0; cage < 20; cage++) {
            if (cage != 7) {
                zoo.come(cage, 1, 15);
            }
        }
        Check.tells(zoo, "no cage is free", 7, () -> zoo.advise(0));
    }

    private static void adviseTakesTheLeastNumber() {
        RuleZoo zoo = new RuleZoo();
        zoo.come(10, 1, 9);
        zoo.come(0, 4, 8);
        Check.tells(zoo, "a meal from 1, 2, 3, 17, 18, 19", 1, () -> zoo.advise(0));
        zoo.come(19, 2, 8);
        Check.tells(zoo, "two meals from 17, 18, if it eats its hunter before", 17, () -> zoo.advise(0));
    }

    private static void meanTells() {
        RuleZoo zoo = new RuleZoo();
        Check.isDouble("of none", 0.0, zoo.mean());
        zoo.come(0, 0, 15);
        Check.isDouble("of one without hunger", 0.0, zoo.mean());
        zoo.pass(2);
        zoo.come(7, 0, 15);
        Check.isDouble("of two", 1.0, zoo.mean());
        zoo.pass(1);
        zoo.come(13, 0, 15);
        long before = zoo.digest();
        Check.isDouble("of three", 4.0 / 3, zoo.mean());
        Check.is("nothing is changed", before, zoo.digest());
        zoo.free(0);
        Check.isDouble("of those that are there", 0.5, zoo.mean());
        zoo.pass(50);
        Check.isDouble("of those that are gone", 0.0, zoo.mean());
    }

    private static long told(RuleZoo zoo) {
        long d = 1021;
        for (int what = 0; what < 9; what++) {
            d = d * 31 + zoo.count(what);
        }
        for (int cage = 0; cage < 20; cage++) {
            d = d * 31 + zoo.cage(cage);
        }
        for (int rule = 0; rule < zoo.count(2); rule++) {
            for (int what = 0; what < 12; what++) {
                d = d * 31 + zoo.rule(rule, what);
            }
        }
        return d;
    }

    private static void digestTells() {
        RuleZoo zoo = new RuleZoo();
        Check.is("of a new zoo", told(zoo), zoo.digest());
        zoo.come(5, 1, 12);
        zoo.come(6, 0, 11);
        zoo.come(4, 0, 11);
        zoo.come(12, 5, 3);
        Check.is("with rules", told(zoo), zoo.digest());
        zoo.free(3);
        zoo.pass(3);
        Check.is("with those that are gone", told(zoo), zoo.digest());
        Check.is("again", zoo.digest(), zoo.digest());
        zoo.pass(30);
        Check.is("with none there", told(zoo), zoo.digest());
    }
}
