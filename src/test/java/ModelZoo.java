import java.util.ArrayList;
import java.util.List;

/**
 * The document once more, word by word and without a thought for room: what RuleZoo is compared with.
 * It shares no code with RuleZoo, and looks ahead by copying itself.
 */
final class ModelZoo {
    private static final int[] STEPS = {1, 19, 2, 18, 3, 17};

    private static final class Rule {
        int name;
        int kind;
        int number;
        int hunger;
        int age;
        int store;
        int eaten;
        Rule parent;
        int cage;
        int how;
        int offspring;
        Rule eater;
        Rule latest;
        boolean ate;
        boolean bornToday;
    }

    /** How often a day came to what is rare, so that a test can see that it did. */
    int fullOnBirth = 0;
    int sixtyOnBirth = 0;
    int kindOfTheEaten = 0;

    private final List<Rule> rules = new ArrayList<>();
    private int day = 0;

    private ModelZoo copy() {
        ModelZoo other = new ModelZoo();
        for (Rule rule : rules) {
            Rule twin = new Rule();
            twin.name = rule.name;
            twin.kind = rule.kind;
            twin.number = rule.number;
            twin.hunger = rule.hunger;
            twin.age = rule.age;
            twin.store = rule.store;
            twin.eaten = rule.eaten;
            twin.cage = rule.cage;
            twin.how = rule.how;
            twin.offspring = rule.offspring;
            other.rules.add(twin);
        }
        for (Rule rule : rules) {
            Rule twin = other.rules.get(rule.name);
            twin.parent = rule.parent == null ? null : other.rules.get(rule.parent.name);
            twin.eater = rule.eater == null ? null : other.rules.get(rule.eater.name);
            twin.latest = rule.latest == null ? null : other.rules.get(rule.latest.name);
        }
        other.day = day;
        return other;
    }

    // ---- asks that the document refuses

    private Rule asked(int rule) {
        if (rule < 0 || rule >= rules.size()) {
            throw new IndexOutOfBoundsException();
        }
        return rules.get(rule);
    }

    private static void bounds(boolean fine) {
        if (!fine) {
            throw new IndexOutOfBoundsException();
        }
    }

    private static void argument(boolean fine) {
        if (!fine) {
            throw new IllegalArgumentException();
        }
    }

    private static void state(boolean fine) {
        if (!fine) {
            throw new IllegalStateException();
        }
    }

    // ---- rules that come and go

    int come(int cage, int kind, int number) {
        bounds(0 <= cage && cage <= 19);
        argument(0 <= kind && kind <= 5 && 1 <= number && number <= 15);
        state(in(cage) == null && rules.size() < 60);
        return add(cage, kind, number, null).name;
    }

    private Rule add(int cage, int kind, int number, Rule parent) {
        Rule rule = new Rule();
        rule.name = rules.size();
        rule.kind = kind;
        rule.number = number;
        rule.cage = cage;
        rule.parent = parent;
        rules.add(rule);
        return rule;
    }

    int move(int name, int cage) {
        Rule rule = asked(name);
        bounds(0 <= cage && cage <= 19);
        state(rule.how == 0 && in(cage) == null);
        int before = rule.cage;
        rule.cage = cage;
        return before;
    }

    int feed(int name) {
        Rule rule = asked(name);
        state(rule.how == 0);
        int before = rule.hunger;
        rule.hunger = 0;
        return before;
    }

    int alter(int name, int number) {
        Rule rule = asked(name);
        argument(1 <= number && number <= 15);
        state(rule.how == 0);
        int before = rule.number;
        rule.number = number;
        return before;
    }

    int free(int name) {
        Rule rule = asked(name);
        state(rule.how == 0);
        go(rule, 3);
        return rule.age;
    }

    private static void go(Rule rule, int how) {
        rule.how = how;
        rule.cage = -1;
    }

    // ---- what is there

    private Rule in(int cage) {
        for (Rule rule : rules) {
            if (rule.how == 0 && rule.cage == cage) {
                return rule;
            }
        }
        return null;
    }

    private static int name(Rule rule) {
        return rule == null ? -1 : rule.name;
    }

    int rule(int name, int what) {
        Rule rule = asked(name);
        bounds(0 <= what && what <= 11);
        int[] all = {rule.kind, rule.number, code(rule), rule.hunger, rule.age, rule.store, rule.eaten,
            name(rule.parent), rule.cage, rule.how, rule.offspring, name(rule.eater)};
        return all[what];
    }

    private static int code(Rule rule) {
        return 16 * rule.kind + rule.number;
    }

    int cage(int cage) {
        bounds(0 <= cage && cage <= 19);
        return name(in(cage));
    }

    int count(int what) {
        bounds(0 <= what && what <= 8);
        int[] all = new int[9];
        all[0] = day;
        all[2] = rules.size();
        all[7] = 20;
        boolean[] kinds = new boolean[6];
        for (Rule rule : rules) {
            if (rule.how == 0) {
                all[1]++;
                all[7]--;
                if (!kinds[rule.kind]) {
                    kinds[rule.kind] = true;
                    all[8]++;
                }
            } else {
                all[2 + rule.how]++;
            }
            if (rule.parent != null) {
                all[6]++;
            }
        }
        return all[what];
    }

    boolean may(int name, int otherName) {
        return may(asked(name), asked(otherName));
    }

    private static boolean may(Rule rule, Rule other) {
        if (rule == other || rule.how != 0 || other.how != 0 || rule.parent == other || other.parent == rule) {
            return false;
        }
        int n = rule.number;
        return rule.kind == 0 && code(other) % n == 0
                || rule.kind == 1 && other.number < n
                || rule.kind == 2 && other.number > n
                || rule.kind == 3 && other.kind == n % 6
                || rule.kind == 4 && other.hunger >= n
                || rule.kind == 5 && other.age >= rule.age + n;
    }

    int prey(int name) {
        return name(prey(asked(name)));
    }

    private Rule prey(Rule rule) {
        if (rule.how != 0) {
            return null;
        }
        for (int step : STEPS) {
            Rule other = in((rule.cage + step) % 20);
            if (other != null && may(rule, other)) {
                return other;
            }
        }
        return null;
    }

    int hunters(int name) {
        Rule hunted = asked(name);
        int found = 0;
        for (Rule rule : rules) {
            found += prey(rule) == hunted ? 1 : 0;
        }
        return found;
    }

    int chain(int name) {
        Rule next = asked(name);
        List<Rule> row = new ArrayList<>();
        while (next != null && next.how == 0 && !row.contains(next)) {
            row.add(next);
            next = prey(next);
        }
        return row.size();
    }

    // ---- days and looking ahead

    int pass(int days) {
        argument(1 <= days && days <= 50);
        int before = gone();
        for (int i = 0; i < days; i++) {
            liveOneDay();
        }
        return gone() - before;
    }

    private int gone() {
        return count(3) + count(4) + count(5);
    }

    private void liveOneDay() {
        for (Rule rule : rules) {
            rule.ate = false;
            rule.bornToday = false;
        }
        for (Rule rule : rules) {
            Rule prey = prey(rule);
            if (prey != null) {
                go(prey, 1);
                prey.eater = rule;
                rule.ate = true;
                rule.latest = prey;
                rule.hunger = rule.hunger < 2 ? 0 : rule.hunger - 2;
                rule.store++;
                rule.eaten++;
            }
        }
        for (Rule rule : rules) {
            if (rule.how == 0 && !rule.ate) {
                rule.hunger++;
                if (rule.hunger > 9) {
                    go(rule, 2);
                }
            }
        }
        for (Rule rule : new ArrayList<>(rules)) {
            if (rule.how == 0 && rule.store >= 2) {
                bear(rule);
            }
        }
        for (Rule rule : rules) {
            if (rule.how == 0 && !rule.bornToday) {
                rule.age++;
            }
        }
        day++;
    }

    private void bear(Rule rule) {
        for (int step : STEPS) {
            int cage = (rule.cage + step) % 20;
            if (in(cage) == null) {
                if (rules.size() >= 60) {
                    sixtyOnBirth++;
                    return;
                }
                int number = (rule.number + rule.latest.number) % 15 + 1;
                boolean greater = rule.latest.number > rule.number;
                kindOfTheEaten += greater && rule.latest.kind != rule.kind ? 1 : 0;
                Rule child = add(cage, greater ? rule.latest.kind : rule.kind, number, rule);
                child.bornToday = true;
                rule.store -= 2;
                rule.offspring++;
                return;
            }
        }
        fullOnBirth++;
    }

    int foresee(int days, int what) {
        argument(1 <= days && days <= 50);
        bounds(0 <= what && what <= 3);
        ModelZoo then = copy();
        then.pass(days);
        int[] all = {then.count(1), then.count(3), then.count(2), then.hunger()};
        return all[what];
    }

    private int hunger() {
        int sum = 0;
        for (Rule rule : rules) {
            sum += rule.how == 0 ? rule.hunger : 0;
        }
        return sum;
    }

    int lives(int name) {
        asked(name);
        ModelZoo then = copy();
        for (int days = 0; days <= 100; days++) {
            if (then.rules.get(name).how != 0) {
                return days;
            }
            then.liveOneDay();
        }
        return -1;
    }

    int ends() {
        ModelZoo then = copy();
        for (int days = 0; days <= 100; days++) {
            if (then.count(1) <= 1) {
                return days;
            }
            then.liveOneDay();
        }
        return -1;
    }

    int last() {
        int days = ends();
        if (days < 0) {
            return -1;
        }
        ModelZoo then = copy();
        for (int i = 0; i < days; i++) {
            then.liveOneDay();
        }
        for (Rule rule : then.rules) {
            if (rule.how == 0) {
                return rule.name;
            }
        }
        return -1;
    }

    int advise(int name) {
        Rule rule = asked(name);
        if (rule.how != 0) {
            return -1;
        }
        int best = -1;
        int most = -1;
        for (int i = -1; i < 20; i++) {
            int cage = i == -1 ? rule.cage : i;
            ModelZoo there = copy();
            if (i != -1 && in(cage) != null) {
                continue;
            }
            there.rules.get(name).cage = cage;
            int days = there.lives(name);
            days = days == -1 || days > 40 ? 40 : days;
            if (days > most) {
                most = days;
                best = cage;
            }
        }
        return best;
    }

    double mean() {
        return count(1) == 0 ? 0 : hunger() / (double) count(1);
    }

    long digest() {
        long d = 1021;
        for (int what = 0; what <= 8; what++) {
            d = d * 31 + count(what);
        }
        for (int cage = 0; cage <= 19; cage++) {
            d = d * 31 + cage(cage);
        }
        for (int name = 0; name < rules.size(); name++) {
            for (int what = 0; what <= 11; what++) {
                d = d * 31 + rule(name, what);
            }
        }
        return d;
    }
}
