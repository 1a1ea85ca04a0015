import java.util.NoSuchElementException;

/**
 * Plans for guides and guards: who does which tour or watch of a day, by
 * skills, times off, rests and legal hours.
 */
public final class GuidePlans {
    public static final int NONE = -1;

    private static final int DAY_END = 96;
    private static final int MOST_PERSONS = 4;
    private static final int MOST_TASKS = 6;
    private static final int MOST_SPANS = 20;
    private static final int SKILL_KINDS = 8;
    private static final int EMPTY_COST = 100;

    private static final int SWAPPED = 0;
    private static final int SWAP_FROZEN = 1;
    private static final int SWAP_EMPTIES = 2;
    private static final int SWAP_UNSUITED = 3;
    private static final int SWAP_TOO_NEAR = 4;
    private static final int SWAP_TOO_LONG = 5;

    private final Day day;
    private final Search search;
    private final int[] plan;
    private final int[] changedTasks;
    private int changes;
    private int frozenUntil;
    private int lackingBegin;
    private boolean planned;

    public GuidePlans() {
        day = new Day();
        search = new Search();
        plan = new int[MOST_TASKS];
        changedTasks = new int[MOST_TASKS];
        changes = 0;
        frozenUntil = 0;
        lackingBegin = NONE;
        planned = false;
    }

    public int person(int skills) throws IllegalArgumentException, IllegalStateException {
        if (skills < 0 || skills >= 1 << SKILL_KINDS) {
            throw new IllegalArgumentException("skills are not 0 .. 255");
        }
        if (day.persons >= MOST_PERSONS) {
            throw new IllegalStateException("there are four persons");
        }
        return day.addPerson(skills);
    }

    public int off(int person, int from, int to)
            throws NoSuchElementException, IllegalArgumentException, IllegalStateException {
        requirePerson(person);
        requireSpan(from, to);
        requireRoomForSpan();
        day.addSpan(person, from, to);
        return day.spans;
    }

    public int task(int skill, int from, int to, boolean always)
            throws NoSuchElementException, IllegalArgumentException, IllegalStateException {
        if (skill < 0 || skill >= SKILL_KINDS) {
            throw new NoSuchElementException("no such skill");
        }
        requireSpan(from, to);
        if (day.tasks >= MOST_TASKS) {
            throw new IllegalStateException("there are six tasks");
        }
        plan[day.tasks] = NONE;
        return day.addTask(skill, from, to, always);
    }

    public int rest(int quarters) throws IllegalArgumentException {
        requireQuarters(quarters);
        int former = day.restQuarters;
        day.restQuarters = quarters;
        return former;
    }

    public int limit(int quarters) throws IllegalArgumentException {
        requireQuarters(quarters);
        int former = day.mostQuarters;
        day.mostQuarters = quarters;
        return former;
    }

    public int freeze(int until) throws IllegalArgumentException {
        requireQuarters(until);
        int former = frozenUntil;
        frozenUntil = until;
        return former;
    }

    public int run() {
        if (!search.findAnew(day, plan)) {
            lackingBegin = search.firstLacking(day, plan, 0);
            return NONE;
        }
        adoptFoundPlan();
        return planCost();
    }

    public int told() {
        return lackingBegin;
    }

    public int of(int task) throws NoSuchElementException {
        requireTask(task);
        return plan[task];
    }

    public int cost() throws IllegalStateException {
        requirePlan();
        return planCost();
    }

    public int absent(int person, int from)
            throws NoSuchElementException, IllegalArgumentException, IllegalStateException {
        requirePerson(person);
        requireSpan(from, DAY_END);
        requirePlan();
        requireRoomForSpan();
        day.addSpan(person, from, DAY_END);
        if (!search.findNearest(day, plan, frozenUntil)) {
            // what is lacking is told of the search as it was, so with the person off
            lackingBegin = search.firstLacking(day, plan, frozenUntil);
            day.dropLatestSpan();
            return NONE;
        }
        noteChanges();
        adoptFoundPlan();
        return changes;
    }

    public int changed(int k) throws NoSuchElementException {
        if (k < 0 || k >= changes) {
            throw new NoSuchElementException("no such change");
        }
        return changedTasks[k];
    }

    public int swap(int a, int b) throws NoSuchElementException, IllegalStateException {
        requireTask(a);
        requireTask(b);
        requirePlan();
        if (day.begin[a] < frozenUntil || day.begin[b] < frozenUntil) {
            return SWAP_FROZEN;
        }
        int formerOfA = plan[a];
        int formerOfB = plan[b];
        if (empties(a, formerOfB) || empties(b, formerOfA)) {
            return SWAP_EMPTIES;
        }
        if (isUnsuited(a, formerOfB) || isUnsuited(b, formerOfA)) {
            return SWAP_UNSUITED;
        }
        plan[a] = formerOfB;
        plan[b] = formerOfA;
        int fault = faultOfSets(formerOfA, formerOfB);
        if (fault != SWAPPED) {
            plan[a] = formerOfA;
            plan[b] = formerOfB;
        }
        return fault;
    }

    public int work(int person) throws NoSuchElementException {
        requirePerson(person);
        return quartersOf(person);
    }

    public int fair() {
        if (day.persons == 0) {
            return 0;
        }
        int most = 0;
        int fewest = MOST_TASKS;
        for (int p = 0; p < day.persons; p++) {
            int number = numberOfTasks(p);
            most = Math.max(most, number);
            fewest = Math.min(fewest, number);
        }
        return most - fewest;
    }

    public int count(int what) throws NoSuchElementException {
        switch (what) {
            case 0:
                return day.persons;
            case 1:
                return day.tasks;
            case 2:
                return day.spans;
            case 3:
                return changes;
            default:
                throw new NoSuchElementException("nothing to count by this number");
        }
    }

    private void requirePerson(int person) {
        if (!day.hasPerson(person)) {
            throw new NoSuchElementException("no such person");
        }
    }

    private void requireTask(int task) {
        if (!day.hasTask(task)) {
            throw new NoSuchElementException("no such task");
        }
    }

    private void requireSpan(int from, int to) {
        if (from < 0 || from >= to || to > DAY_END) {
            throw new IllegalArgumentException("not 0 <= from < to <= 96");
        }
    }

    private void requireQuarters(int quarters) {
        if (quarters < 0 || quarters > DAY_END) {
            throw new IllegalArgumentException("quarters are not 0 .. 96");
        }
    }

    private void requirePlan() {
        if (!planned) {
            throw new IllegalStateException("nothing was planned");
        }
    }

    private void requireRoomForSpan() {
        if (day.spans >= MOST_SPANS) {
            throw new IllegalStateException("there are 20 spans off");
        }
    }

    private void adoptFoundPlan() {
        for (int t = 0; t < day.tasks; t++) {
            plan[t] = search.best[t];
        }
        planned = true;
        lackingBegin = NONE;
    }

    private void noteChanges() {
        changes = 0;
        for (int t = 0; t < day.tasks; t++) {
            if (plan[t] != search.best[t]) {
                changedTasks[changes] = t;
                changes++;
            }
        }
    }

    private int planCost() {
        int total = 0;
        for (int t = 0; t < day.tasks; t++) {
            if (plan[t] == NONE) {
                total += EMPTY_COST;
            }
        }
        for (int p = 0; p < day.persons; p++) {
            int number = numberOfTasks(p);
            total += number * number;
        }
        return total;
    }

    private int numberOfTasks(int person) {
        int number = 0;
        for (int t = 0; t < day.tasks; t++) {
            if (plan[t] == person) {
                number++;
            }
        }
        return number;
    }

    private int quartersOf(int person) {
        int quarters = 0;
        for (int t = 0; t < day.tasks; t++) {
            if (plan[t] == person) {
                quarters += day.lengthOf(t);
            }
        }
        return quarters;
    }

    private boolean empties(int task, int doer) {
        return day.always[task] && doer == NONE;
    }

    private boolean isUnsuited(int task, int doer) {
        return doer != NONE && !day.suits(doer, task);
    }

    /** What forbids the tasks that two doers have by the plan; each may be NONE. */
    private int faultOfSets(int one, int other) {
        if (hasTasksTooNear(one) || hasTasksTooNear(other)) {
            return SWAP_TOO_NEAR;
        }
        if (worksTooLong(one) || worksTooLong(other)) {
            return SWAP_TOO_LONG;
        }
        return SWAPPED;
    }

    private boolean hasTasksTooNear(int doer) {
        if (doer == NONE) {
            return false;
        }
        for (int t = 0; t < day.tasks; t++) {
            for (int u = t + 1; u < day.tasks; u++) {
                if (plan[t] == doer && plan[u] == doer && day.areTooNear(t, u)) {
                    return true;
                }
            }
        }
        return false;
    }

    private boolean worksTooLong(int doer) {
        return doer != NONE && quartersOf(doer) > day.mostQuarters;
    }

    /** The persons, their spans off, the tasks and the rules of a day, without any plan. */
    private static final class Day {
        final int[] skillsOf;
        final int[] offPerson;
        final int[] offFrom;
        final int[] offTo;
        final int[] skill;
        final int[] begin;
        final int[] end;
        final boolean[] always;
        int persons;
        int spans;
        int tasks;
        int restQuarters;
        int mostQuarters;

        Day() {
            skillsOf = new int[MOST_PERSONS];
            offPerson = new int[MOST_SPANS];
            offFrom = new int[MOST_SPANS];
            offTo = new int[MOST_SPANS];
            skill = new int[MOST_TASKS];
            begin = new int[MOST_TASKS];
            end = new int[MOST_TASKS];
            always = new boolean[MOST_TASKS];
            persons = 0;
            spans = 0;
            tasks = 0;
            restQuarters = 0;
            mostQuarters = DAY_END;
        }

        boolean hasPerson(int p) {
            return p >= 0 && p < persons;
        }

        boolean hasTask(int t) {
            return t >= 0 && t < tasks;
        }

        int addPerson(int skills) {
            if (persons >= MOST_PERSONS) {
                return NONE;
            }
            skillsOf[persons] = skills;
            persons++;
            return persons - 1;
        }

        void addSpan(int p, int from, int to) {
            if (spans >= MOST_SPANS) {
                return;
            }
            offPerson[spans] = p;
            offFrom[spans] = from;
            offTo[spans] = to;
            spans++;
        }

        void dropLatestSpan() {
            if (spans > 0) {
                spans--;
            }
        }

        int addTask(int ofSkill, int from, int to, boolean isAlways) {
            if (tasks >= MOST_TASKS) {
                return NONE;
            }
            skill[tasks] = ofSkill;
            begin[tasks] = from;
            end[tasks] = to;
            always[tasks] = isAlways;
            tasks++;
            return tasks - 1;
        }

        int lengthOf(int t) {
            return hasTask(t) ? end[t] - begin[t] : 0;
        }

        boolean suits(int p, int t) {
            if (!hasPerson(p) || !hasTask(t)) {
                return false;
            }
            return ((skillsOf[p] >> skill[t]) & 1) != 0 && !isOffIn(p, t);
        }

        private boolean isOffIn(int p, int t) {
            for (int s = 0; s < spans; s++) {
                if (offPerson[s] == p && offFrom[s] < end[t] && begin[t] < offTo[s]) {
                    return true;
                }
            }
            return false;
        }

        boolean areTooNear(int t, int u) {
            if (!hasTask(t) || !hasTask(u)) {
                return false;
            }
            return begin[t] < end[u] + restQuarters && begin[u] < end[t] + restQuarters;
        }
    }

    /**
     * Seeks the best plan task by task. Persons are tried by number and none
     * last, and only a strictly better plan replaces a found one, so that of
     * equal plans the one with the lower person in the first difference stays.
     */
    private static final class Search {
        /** Above every cost (at most 600), so that one change outweighs all cost. */
        private static final int CHANGE_WEIGHT = 1000;
        /** Above every score, six changes with the highest cost among them. */
        private static final int NOT_FOUND = 1000000;
        /** The bit of a task's choices that stands for none; persons have 0 .. 3. */
        private static final int NOBODY = MOST_PERSONS;

        final int[] best;
        private final int[] trial;
        private final int[] choices;
        private final int[] tooNear;
        private final int[] held;
        private final int[] quarters;
        private int changeWeight;
        private int costWeight;
        private int bestScore;

        Search() {
            best = new int[MOST_TASKS];
            trial = new int[MOST_TASKS];
            choices = new int[MOST_TASKS];
            tooNear = new int[MOST_TASKS];
            held = new int[MOST_PERSONS];
            quarters = new int[MOST_PERSONS];
            changeWeight = 0;
            costWeight = 0;
            bestScore = NOT_FOUND;
        }

        /** The plan of least cost; it is then in best. */
        boolean findAnew(Day day, int[] former) {
            changeWeight = 0;
            costWeight = 1;
            return find(day, former, 0, day.tasks);
        }

        /** The plan of the fewest changes that keeps what is frozen; it is then in best. */
        boolean findNearest(Day day, int[] former, int frozenUntil) {
            changeWeight = CHANGE_WEIGHT;
            costWeight = 1;
            return find(day, former, frozenUntil, day.tasks);
        }

        /** The begin of the first ALWAYS that no plan mans along with all lower ones. */
        int firstLacking(Day day, int[] former, int frozenUntil) {
            // without weights the first plan found is as good as any, which ends the search
            changeWeight = 0;
            costWeight = 0;
            for (int t = 0; t < day.tasks; t++) {
                if (day.always[t] && !find(day, former, frozenUntil, t + 1)) {
                    return day.begin[t];
                }
            }
            return NONE;
        }

        /** Only an ALWAYS with a number below mannedBelow must have a person. */
        private boolean find(Day day, int[] former, int frozenUntil, int mannedBelow) {
            for (int t = 0; t < day.tasks; t++) {
                boolean mayBeEmpty = !day.always[t] || t >= mannedBelow;
                boolean kept = day.begin[t] < frozenUntil;
                choices[t] = kept ? bitOf(former[t]) : bitsOfSuiting(day, t) | bitOf(NONE);
                if (!mayBeEmpty) {
                    choices[t] &= ~bitOf(NONE);
                }
                tooNear[t] = bitsOfTooNear(day, t);
            }
            for (int p = 0; p < MOST_PERSONS; p++) {
                held[p] = 0;
                quarters[p] = 0;
            }
            bestScore = NOT_FOUND;
            place(day, former, 0, 0);
            return bestScore < NOT_FOUND;
        }

        private int bitOf(int doer) {
            return 1 << (doer == NONE ? NOBODY : doer);
        }

        private int bitsOfSuiting(Day day, int task) {
            int bits = 0;
            for (int p = 0; p < day.persons; p++) {
                if (day.suits(p, task)) {
                    bits |= bitOf(p);
                }
            }
            return bits;
        }

        private int bitsOfTooNear(Day day, int task) {
            int bits = 0;
            for (int t = 0; t < day.tasks; t++) {
                if (t != task && day.areTooNear(t, task)) {
                    bits |= 1 << t;
                }
            }
            return bits;
        }

        /** Tries every choice for this task and those behind it; the depth is the task's number. */
        private void place(Day day, int[] former, int task, int score) {
            // each task still to be placed costs at least 1
            if (score + costWeight * (day.tasks - task) >= bestScore) {
                return;
            }
            if (task >= day.tasks) {
                keepTrial(day.tasks, score);
                return;
            }
            for (int p = 0; p < day.persons; p++) {
                if (mayTake(day, p, task)) {
                    placePerson(day, former, task, score, p);
                }
            }
            if ((choices[task] & bitOf(NONE)) != 0) {
                trial[task] = NONE;
                place(day, former, task + 1, score + weightOf(former[task], NONE, EMPTY_COST));
            }
        }

        private boolean mayTake(Day day, int p, int task) {
            return (choices[task] & bitOf(p)) != 0
                    && (tooNear[task] & held[p]) == 0
                    && quarters[p] + day.lengthOf(task) <= day.mostQuarters;
        }

        private void placePerson(Day day, int[] former, int task, int score, int p) {
            int had = Integer.bitCount(held[p]);
            // from the square of n to that of n + 1
            int costOfOneMore = 2 * had + 1;
            trial[task] = p;
            held[p] |= 1 << task;
            quarters[p] += day.lengthOf(task);
            place(day, former, task + 1, score + weightOf(former[task], p, costOfOneMore));
            held[p] &= ~(1 << task);
            quarters[p] -= day.lengthOf(task);
        }

        private int weightOf(int formerDoer, int doer, int addedCost) {
            int weight = costWeight * addedCost;
            return formerDoer == doer ? weight : weight + changeWeight;
        }

        private void keepTrial(int tasks, int score) {
            for (int t = 0; t < tasks; t++) {
                best[t] = trial[t];
            }
            bestScore = score;
        }
    }
}
