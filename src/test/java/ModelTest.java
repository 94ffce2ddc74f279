import java.util.Random;
import java.util.function.LongSupplier;

/** All promises: long runs of calls, drawn by a fixed seed, against ModelZoo. */
public final class ModelTest {
    private static final int RUNS = 400;
    /** With a digest() each eighth time no zoo sees more than the 512 calls that the document promises. */
    private static final int CALLS = 455;
    private static final int[] STRANGE = {-1, -2, 60, 100, Integer.MIN_VALUE, Integer.MAX_VALUE};

    private static final Random DRAW = new Random(20261119L);
    private static int fullOnBirth = 0;
    private static int sixtyOnBirth = 0;
    private static int kindOfTheEaten = 0;
    private static int born = 0;
    private static int advisedAway = 0;

    public static void main(String[] args) {
        for (int run = 0; run < RUNS; run++) {
            oneRun(run);
        }
        // A run that never comes to these would tell little.
        Check.isTrue("no cage was free for an offspring: " + fullOnBirth, fullOnBirth > 5);
        Check.isTrue("there were 60 before an offspring: " + sixtyOnBirth, sixtyOnBirth > 20);
        Check.isTrue("an offspring has the kind of the eaten one: " + kindOfTheEaten, kindOfTheEaten > 20);
        Check.isTrue("born: " + born, born > 1000);
        Check.isTrue("advised another cage: " + advisedAway, advisedAway > 100);
        Check.end();
    }

    private static void oneRun(int run) {
        RuleZoo zoo = new RuleZoo();
        ModelZoo model = new ModelZoo();
        // Some zoos are full of rules, some have few; some see many days, some see few.
        int comers = 1 + DRAW.nextInt(12);
        int daysAtOnce = DRAW.nextInt(3) == 0 ? 50 : 2;
        boolean crowded = run % 4 == 0;
        for (int call = 0; call < CALLS; call++) {
            String when = "run " + run + ", call " + call + ", ";
            if (crowded && call % 4 != 0) {
                fillUp(when, zoo, model);
            } else if (DRAW.nextInt(14) < comers) {
                change(when, zoo, model, daysAtOnce);
            } else {
                ask(when, zoo, model);
            }
            if (call % 8 == 0) {
                Check.is(when + "digest()", model.digest(), zoo.digest());
            }
        }
        fullOnBirth += model.fullOnBirth;
        sixtyOnBirth += model.sixtyOnBirth;
        kindOfTheEaten += model.kindOfTheEaten;
        born += model.count(6);
    }

    /** Rules come to the first free cage, so that offspring often find none. */
    private static void fillUp(String when, RuleZoo zoo, ModelZoo model) {
        for (int cage = 0; cage < 20; cage++) {
            if (model.cage(cage) == -1 && model.count(2) < 60) {
                int comesTo = cage;
                int kind = DRAW.nextInt(6);
                int number = 1 + DRAW.nextInt(15);
                same(when + "come(" + cage + ", " + kind + ", " + number + ")",
                        () -> model.come(comesTo, kind, number), () -> zoo.come(comesTo, kind, number));
                return;
            }
        }
        same(when + "pass(1)", () -> model.pass(1), () -> zoo.pass(1));
    }

    private static int among(int from, int to) {
        if (DRAW.nextInt(40) == 0) {
            return STRANGE[DRAW.nextInt(STRANGE.length)];
        }
        return from + DRAW.nextInt(to - from + 1);
    }

    private static int aRule(ModelZoo model) {
        return DRAW.nextInt(6) == 0 ? among(0, model.count(2)) : model.cage(DRAW.nextInt(20));
    }

    private static void same(String what, LongSupplier want, LongSupplier got) {
        Check.isText(what, Check.outcome(want), Check.outcome(got));
    }

    private static void change(String when, RuleZoo zoo, ModelZoo model, int daysAtOnce) {
        int rule = aRule(model);
        int cage = among(0, 20);
        int kind = among(0, 6);
        int number = among(0, 16);
        switch (DRAW.nextInt(9)) {
            case 0: case 1: case 2: case 3:
                same(when + "come(" + cage + ", " + kind + ", " + number + ")",
                        () -> model.come(cage, kind, number), () -> zoo.come(cage, kind, number));
                break;
            case 4:
                same(when + "move(" + rule + ", " + cage + ")",
                        () -> model.move(rule, cage), () -> zoo.move(rule, cage));
                break;
            case 5:
                same(when + "feed(" + rule + ")", () -> model.feed(rule), () -> zoo.feed(rule));
                break;
            case 6:
                same(when + "alter(" + rule + ", " + number + ")",
                        () -> model.alter(rule, number), () -> zoo.alter(rule, number));
                break;
            case 7:
                if (DRAW.nextInt(5) == 0) {
                    same(when + "free(" + rule + ")", () -> model.free(rule), () -> zoo.free(rule));
                }
                break;
            default:
                int days = DRAW.nextInt(10) == 0 ? among(0, 51) : 1 + DRAW.nextInt(daysAtOnce);
                same(when + "pass(" + days + ")", () -> model.pass(days), () -> zoo.pass(days));
        }
    }

    private static void ask(String when, RuleZoo zoo, ModelZoo model) {
        int rule = aRule(model);
        int other = aRule(model);
        int what = among(0, 12);
        int less = among(0, 4);
        int days = among(0, 51);
        switch (DRAW.nextInt(14)) {
            case 0:
                same(when + "rule(" + rule + ", " + what + ")",
                        () -> model.rule(rule, what), () -> zoo.rule(rule, what));
                break;
            case 1:
                same(when + "cage(" + what + ")", () -> model.cage(what), () -> zoo.cage(what));
                break;
            case 2:
                same(when + "count(" + what + ")", () -> model.count(what), () -> zoo.count(what));
                break;
            case 3:
                same(when + "may(" + rule + ", " + other + ")",
                        () -> model.may(rule, other) ? 1 : 0, () -> zoo.may(rule, other) ? 1 : 0);
                break;
            case 4:
                same(when + "prey(" + rule + ")", () -> model.prey(rule), () -> zoo.prey(rule));
                break;
            case 5:
                same(when + "hunters(" + rule + ")", () -> model.hunters(rule), () -> zoo.hunters(rule));
                break;
            case 6:
                same(when + "chain(" + rule + ")", () -> model.chain(rule), () -> zoo.chain(rule));
                break;
            case 7: case 8:
                same(when + "foresee(" + days + ", " + less + ")",
                        () -> model.foresee(days, less), () -> zoo.foresee(days, less));
                break;
            case 9:
                same(when + "lives(" + rule + ")", () -> model.lives(rule), () -> zoo.lives(rule));
                break;
            case 10:
                Check.is(when + "ends()", model.ends(), zoo.ends());
                break;
            case 11:
                Check.is(when + "last()", model.last(), zoo.last());
                break;
            case 12:
                if (DRAW.nextInt(4) == 0) {
                    same(when + "advise(" + rule + ")", () -> model.advise(rule), () -> zoo.advise(rule));
                    advisedAway += advisesAway(model, rule) ? 1 : 0;
                }
                break;
            default:
                Check.isDouble(when + "mean()", model.mean(), zoo.mean());
        }
    }

    private static boolean advisesAway(ModelZoo model, int rule) {
        return rule >= 0 && rule < model.count(2) && model.advise(rule) != model.rule(rule, 8);
    }
}
