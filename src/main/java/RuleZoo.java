/** A zoo of rules that eat rules. The document ../shared/DOC.md says what each call promises. */
public final class RuleZoo {
    private static final int CAGES = 20;
    private static final int MOST_RULES = 60;
    private static final int KINDS = 6;
    private static final int MOST_NUMBER = 15;
    private static final int MOST_HUNGER = 9;
    private static final int MEALS_PER_OFFSPRING = 2;
    private static final int HUNGER_PER_MEAL = 2;

    private static final int MOST_DAYS = 50;
    private static final int MOST_DAYS_AHEAD = 100;
    private static final int MOST_DAYS_ADVISED = 40;

    private static final int NONE = -1;

    private static final int THERE = 0;
    private static final int EATEN = 1;
    private static final int STARVED = 2;
    private static final int LET_OUT = 3;

    private static final int COUNTS = 9;
    private static final int ANSWERS_ABOUT_RULE = 12;
    private static final int ANSWERS_FORESEEN = 4;

    private static final long DIGEST_START = 1021L;
    private static final long DIGEST_FACTOR = 31L;

    /** The steps from a cage to those around it, in their order. */
    private static final int[] AROUND = {1, -1, 2, -2, 3, -3};

    private final State now;
    /** Kept from call to call, so that looking ahead makes no new rows. */
    private final State trial;

    public RuleZoo() {
        now = new State();
        trial = new State();
    }

    // ---- rules that come and go

    public int come(int cage, int kind, int number)
            throws IndexOutOfBoundsException, IllegalArgumentException, IllegalStateException {
        requireCage(cage);
        if (kind < 0 || kind >= KINDS) {
            throw new IllegalArgumentException("there is no such kind");
        }
        requireNumber(number);
        requireFree(cage);
        if (now.total >= MOST_RULES) {
            throw new IllegalStateException("there were as many rules as there may be");
        }
        return now.enter(cage, kind, number, NONE);
    }

    public int move(int rule, int cage) throws IndexOutOfBoundsException, IllegalStateException {
        requireRule(rule);
        requireCage(cage);
        requireThere(rule);
        requireFree(cage);
        int before = now.cageOf[rule];
        now.settle(rule, cage);
        return before;
    }

    public int feed(int rule) throws IndexOutOfBoundsException, IllegalStateException {
        requireRule(rule);
        requireThere(rule);
        int before = now.hungerOf[rule];
        now.hungerOf[rule] = 0;
        return before;
    }

    public int alter(int rule, int number)
            throws IndexOutOfBoundsException, IllegalArgumentException, IllegalStateException {
        requireRule(rule);
        requireNumber(number);
        requireThere(rule);
        int before = now.numberOf[rule];
        now.numberOf[rule] = number;
        return before;
    }

    public int free(int rule) throws IndexOutOfBoundsException, IllegalStateException {
        requireRule(rule);
        requireThere(rule);
        now.leave(rule, LET_OUT);
        return now.ageOf[rule];
    }

    // ---- what is there

    public int rule(int rule, int what) throws IndexOutOfBoundsException {
        requireRule(rule);
        requireAnswer(what, ANSWERS_ABOUT_RULE);
        return now.aboutRule(rule, what);
    }

    public int cage(int cage) throws IndexOutOfBoundsException {
        requireCage(cage);
        return now.ruleIn[cage];
    }

    public int count(int what) throws IndexOutOfBoundsException {
        requireAnswer(what, COUNTS);
        return now.counted(what);
    }

    public boolean may(int rule, int other) throws IndexOutOfBoundsException {
        requireRule(rule);
        requireRule(other);
        return now.mayEat(rule, other);
    }

    public int prey(int rule) throws IndexOutOfBoundsException {
        requireRule(rule);
        return now.preyOf(rule);
    }

    public int hunters(int rule) throws IndexOutOfBoundsException {
        requireRule(rule);
        int found = 0;
        for (int hunter = 0; hunter < now.total; hunter++) {
            if (now.preyOf(hunter) == rule) {
                found++;
            }
        }
        return found;
    }

    public int chain(int rule) throws IndexOutOfBoundsException {
        requireRule(rule);
        return now.rowFrom(rule);
    }

    // ---- days and looking ahead

    public int pass(int days) throws IllegalArgumentException {
        requireDays(days);
        int goneBefore = now.total - now.withFate(THERE);
        now.liveDays(days);
        return now.total - now.withFate(THERE) - goneBefore;
    }

    public int foresee(int days, int what) throws IllegalArgumentException, IndexOutOfBoundsException {
        requireDays(days);
        requireAnswer(what, ANSWERS_FORESEEN);
        trial.copyFrom(now);
        trial.liveDays(days);
        switch (what) {
            case 0:
                return trial.withFate(THERE);
            case 1:
                return trial.withFate(EATEN);
            case 2:
                return trial.total;
            default:
                return trial.hungerOfAll();
        }
    }

    public int lives(int rule) throws IndexOutOfBoundsException {
        requireRule(rule);
        if (!now.isThere(rule)) {
            return 0;
        }
        int days = daysTillGone(rule, now.cageOf[rule], MOST_DAYS_AHEAD);
        return days > MOST_DAYS_AHEAD ? NONE : days;
    }

    public int ends() {
        return tryTillEnd();
    }

    public int last() {
        if (tryTillEnd() == NONE) {
            return NONE;
        }
        return trial.firstThere();
    }

    public int advise(int rule) throws IndexOutOfBoundsException {
        requireRule(rule);
        if (!now.isThere(rule)) {
            return NONE;
        }
        int best = now.cageOf[rule];
        int most = Math.min(daysTillGone(rule, best, MOST_DAYS_ADVISED), MOST_DAYS_ADVISED);
        // Only more days win, so that the own cage goes first, and then the least number.
        for (int cage = 0; cage < CAGES; cage++) {
            if (now.ruleIn[cage] == NONE) {
                int days = Math.min(daysTillGone(rule, cage, MOST_DAYS_ADVISED), MOST_DAYS_ADVISED);
                if (days > most) {
                    most = days;
                    best = cage;
                }
            }
        }
        return best;
    }

    public double mean() {
        int there = now.withFate(THERE);
        if (there == 0) {
            return 0.0;
        }
        return (double) now.hungerOfAll() / there;
    }

    public long digest() {
        long d = DIGEST_START;
        for (int what = 0; what < COUNTS; what++) {
            d = d * DIGEST_FACTOR + now.counted(what);
        }
        for (int cage = 0; cage < CAGES; cage++) {
            d = d * DIGEST_FACTOR + now.ruleIn[cage];
        }
        for (int rule = 0; rule < now.total; rule++) {
            for (int what = 0; what < ANSWERS_ABOUT_RULE; what++) {
                d = d * DIGEST_FACTOR + now.aboutRule(rule, what);
            }
        }
        return d;
    }

    // ---- trying out

    /** Days behind which a rule is gone that is in this cage from now on; mostDays + 1 if not by then. */
    private int daysTillGone(int rule, int cage, int mostDays) {
        trial.copyFrom(now);
        trial.settle(rule, cage);
        for (int days = 1; days <= mostDays; days++) {
            trial.liveDay();
            if (!trial.isThere(rule)) {
                return days;
            }
        }
        return mostDays + 1;
    }

    /** Leaves the trial as it is behind the days that this answers. */
    private int tryTillEnd() {
        trial.copyFrom(now);
        if (trial.withFate(THERE) <= 1) {
            return 0;
        }
        for (int days = 1; days <= MOST_DAYS_AHEAD; days++) {
            trial.liveDay();
            if (trial.withFate(THERE) <= 1) {
                return days;
            }
        }
        return NONE;
    }

    // ---- what a call may be asked

    private void requireCage(int cage) {
        if (cage < 0 || cage >= CAGES) {
            throw new IndexOutOfBoundsException("there is no such cage");
        }
    }

    private void requireRule(int rule) {
        if (!now.isRule(rule)) {
            throw new IndexOutOfBoundsException("there is no such rule");
        }
    }

    private void requireAnswer(int what, int answers) {
        if (what < 0 || what >= answers) {
            throw new IndexOutOfBoundsException("there is no such answer");
        }
    }

    private void requireNumber(int number) {
        if (number < 1 || number > MOST_NUMBER) {
            throw new IllegalArgumentException("a rule can't have this number");
        }
    }

    private void requireDays(int days) {
        if (days < 1 || days > MOST_DAYS) {
            throw new IllegalArgumentException("so many days can't go by");
        }
    }

    private void requireThere(int rule) {
        if (!now.isThere(rule)) {
            throw new IllegalStateException("the rule is gone");
        }
    }

    private void requireFree(int cage) {
        if (now.ruleIn[cage] != NONE) {
            throw new IllegalStateException("there is a rule in the cage");
        }
    }

    /** All that there is in a zoo at one time, and how a day goes there. */
    private static final class State {
        private final int[] kindOf = new int[MOST_RULES];
        private final int[] numberOf = new int[MOST_RULES];
        private final int[] hungerOf = new int[MOST_RULES];
        private final int[] ageOf = new int[MOST_RULES];
        private final int[] storeOf = new int[MOST_RULES];
        private final int[] mealsOf = new int[MOST_RULES];
        private final int[] parentOf = new int[MOST_RULES];
        private final int[] cageOf = new int[MOST_RULES];
        private final int[] fateOf = new int[MOST_RULES];
        private final int[] offspringOf = new int[MOST_RULES];
        private final int[] eaterOf = new int[MOST_RULES];
        private final int[] latestMealOf = new int[MOST_RULES];
        private final int[] ruleIn = new int[CAGES];
        private int total;
        private int day;

        State() {
            for (int cage = 0; cage < CAGES; cage++) {
                ruleIn[cage] = NONE;
            }
        }

        void copyFrom(State other) {
            copyRow(other.kindOf, kindOf);
            copyRow(other.numberOf, numberOf);
            copyRow(other.hungerOf, hungerOf);
            copyRow(other.ageOf, ageOf);
            copyRow(other.storeOf, storeOf);
            copyRow(other.mealsOf, mealsOf);
            copyRow(other.parentOf, parentOf);
            copyRow(other.cageOf, cageOf);
            copyRow(other.fateOf, fateOf);
            copyRow(other.offspringOf, offspringOf);
            copyRow(other.eaterOf, eaterOf);
            copyRow(other.latestMealOf, latestMealOf);
            copyRow(other.ruleIn, ruleIn);
            total = other.total;
            day = other.day;
        }

        private static void copyRow(int[] from, int[] to) {
            System.arraycopy(from, 0, to, 0, Math.min(from.length, to.length));
        }

        // ---- rules and cages

        boolean isRule(int rule) {
            return rule >= 0 && rule < total && rule < MOST_RULES;
        }

        boolean isThere(int rule) {
            return rule >= 0 && rule < total && rule < MOST_RULES && fateOf[rule] == THERE;
        }

        private static boolean isCage(int cage) {
            return cage >= 0 && cage < CAGES;
        }

        /** Takes a rule into a free cage, and answers its number; NONE if there is no room for it. */
        int enter(int cage, int kind, int number, int parent) {
            if (total >= MOST_RULES || !isCage(cage)) {
                return NONE;
            }
            int rule = total;
            total++;
            kindOf[rule] = kind;
            numberOf[rule] = number;
            hungerOf[rule] = 0;
            ageOf[rule] = 0;
            storeOf[rule] = 0;
            mealsOf[rule] = 0;
            parentOf[rule] = parent;
            cageOf[rule] = cage;
            fateOf[rule] = THERE;
            offspringOf[rule] = 0;
            eaterOf[rule] = NONE;
            latestMealOf[rule] = NONE;
            ruleIn[cage] = rule;
            return rule;
        }

        void settle(int rule, int cage) {
            if (!isThere(rule) || !isCage(cage)) {
                return;
            }
            clearCageOf(rule);
            cageOf[rule] = cage;
            ruleIn[cage] = rule;
        }

        void leave(int rule, int fate) {
            if (!isThere(rule)) {
                return;
            }
            clearCageOf(rule);
            cageOf[rule] = NONE;
            fateOf[rule] = fate;
        }

        private void clearCageOf(int rule) {
            int cage = cageOf[rule];
            if (cage >= 0 && cage < CAGES) {
                ruleIn[cage] = NONE;
            }
        }

        // ---- who would eat whom

        boolean mayEat(int rule, int other) {
            if (rule == other || !isThere(rule) || !isThere(other)) {
                return false;
            }
            if (parentOf[rule] == other || parentOf[other] == rule) {
                return false;
            }
            int n = numberOf[rule];
            switch (kindOf[rule]) {
                case 0:
                    return n > 0 && codeOf(other) % n == 0;
                case 1:
                    return numberOf[other] < n;
                case 2:
                    return numberOf[other] > n;
                case 3:
                    return kindOf[other] == n % KINDS;
                case 4:
                    return hungerOf[other] >= n;
                case 5:
                    return ageOf[other] - ageOf[rule] >= n;
                default:
                    return false;
            }
        }

        private int codeOf(int rule) {
            return 16 * kindOf[rule] + numberOf[rule];
        }

        int preyOf(int rule) {
            if (!isThere(rule)) {
                return NONE;
            }
            for (int step : AROUND) {
                int other = ruleIn[cageBeside(rule, step)];
                if (mayEat(rule, other)) {
                    return other;
                }
            }
            return NONE;
        }

        private int cageBeside(int rule, int step) {
            return Math.floorMod(cageOf[rule] + step, CAGES);
        }

        /** How many rules the row has that begins with this one, each one's prey behind it. */
        int rowFrom(int rule) {
            int length = 0;
            // A bit for each rule of the row: no more rules than a long has bits.
            long inRow = 0;
            int next = rule;
            while (length < MOST_RULES && isThere(next) && ((inRow >>> next) & 1L) == 0) {
                inRow |= 1L << next;
                length++;
                next = preyOf(next);
            }
            return length;
        }

        // ---- days

        void liveDays(int days) {
            for (int passed = 0; passed < days; passed++) {
                liveDay();
            }
        }

        void liveDay() {
            int before = total;
            starve(eatByNumbers());
            bearByNumbers(before);
            growOlder(before);
            day++;
        }

        /** Answers who ate, a bit for each rule: no more rules than a long has bits. */
        private long eatByNumbers() {
            long ate = 0;
            for (int rule = 0; rule < total; rule++) {
                int prey = preyOf(rule);
                if (prey != NONE) {
                    eat(rule, prey);
                    ate |= 1L << rule;
                }
            }
            return ate;
        }

        private void eat(int rule, int prey) {
            leave(prey, EATEN);
            eaterOf[prey] = rule;
            hungerOf[rule] = Math.max(0, hungerOf[rule] - HUNGER_PER_MEAL);
            storeOf[rule]++;
            mealsOf[rule]++;
            latestMealOf[rule] = prey;
        }

        private void starve(long ate) {
            for (int rule = 0; rule < total; rule++) {
                if (isThere(rule) && ((ate >>> rule) & 1L) == 0) {
                    hungerOf[rule]++;
                    if (hungerOf[rule] > MOST_HUNGER) {
                        leave(rule, STARVED);
                    }
                }
            }
        }

        private void bearByNumbers(int bornBefore) {
            for (int rule = 0; rule < bornBefore; rule++) {
                if (isThere(rule) && storeOf[rule] >= MEALS_PER_OFFSPRING) {
                    bear(rule);
                }
            }
        }

        private void bear(int parent) {
            int cage = freeCageAround(parent);
            int meal = latestMealOf[parent];
            if (cage == NONE || total >= MOST_RULES || !isRule(meal)) {
                return;
            }
            int number = (numberOf[parent] + numberOf[meal]) % MOST_NUMBER + 1;
            int kind = numberOf[meal] > numberOf[parent] ? kindOf[meal] : kindOf[parent];
            enter(cage, kind, number, parent);
            storeOf[parent] -= MEALS_PER_OFFSPRING;
            offspringOf[parent]++;
        }

        private int freeCageAround(int rule) {
            for (int step : AROUND) {
                int cage = cageBeside(rule, step);
                if (ruleIn[cage] == NONE) {
                    return cage;
                }
            }
            return NONE;
        }

        private void growOlder(int bornBefore) {
            for (int rule = 0; rule < bornBefore; rule++) {
                if (isThere(rule)) {
                    ageOf[rule]++;
                }
            }
        }

        // ---- what is told

        int withFate(int fate) {
            int found = 0;
            for (int rule = 0; rule < total; rule++) {
                if (fateOf[rule] == fate) {
                    found++;
                }
            }
            return found;
        }

        int firstThere() {
            for (int rule = 0; rule < total; rule++) {
                if (isThere(rule)) {
                    return rule;
                }
            }
            return NONE;
        }

        int hungerOfAll() {
            int sum = 0;
            for (int rule = 0; rule < total; rule++) {
                if (isThere(rule)) {
                    sum += hungerOf[rule];
                }
            }
            return sum;
        }

        private int born() {
            int found = 0;
            for (int rule = 0; rule < total; rule++) {
                if (parentOf[rule] != NONE) {
                    found++;
                }
            }
            return found;
        }

        private int kindsThere() {
            int kinds = 0;
            for (int rule = 0; rule < total; rule++) {
                if (isThere(rule)) {
                    kinds |= 1 << kindOf[rule];
                }
            }
            return Integer.bitCount(kinds);
        }

        int counted(int what) {
            switch (what) {
                case 0:
                    return day;
                case 1:
                    return withFate(THERE);
                case 2:
                    return total;
                case 3:
                    return withFate(EATEN);
                case 4:
                    return withFate(STARVED);
                case 5:
                    return withFate(LET_OUT);
                case 6:
                    return born();
                case 7:
                    return CAGES - withFate(THERE);
                default:
                    return kindsThere();
            }
        }

        int aboutRule(int rule, int what) {
            if (!isRule(rule)) {
                return NONE;
            }
            switch (what) {
                case 0:
                    return kindOf[rule];
                case 1:
                    return numberOf[rule];
                case 2:
                    return codeOf(rule);
                case 3:
                    return hungerOf[rule];
                case 4:
                    return ageOf[rule];
                case 5:
                    return storeOf[rule];
                case 6:
                    return mealsOf[rule];
                case 7:
                    return parentOf[rule];
                case 8:
                    return cageOf[rule];
                case 9:
                    return fateOf[rule];
                case 10:
                    return offspringOf[rule];
                default:
                    return eaterOf[rule];
            }
        }
    }
}
