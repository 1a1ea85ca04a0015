import java.util.ArrayList;
import java.util.Arrays;
import java.util.List;
import java.util.NoSuchElementException;
import java.util.Random;
import java.util.function.IntSupplier;
import java.util.function.IntUnaryOperator;

/**
 * Random runs of calls against a second implementation that reads the document
 * word by word: it makes every plan whole, drops those that are not allowed and
 * compares the rest two by two.
 */
public final class OracleTest {
    private static final int RUNS = 1000;
    /** The document promises nothing about an object behind this many calls. */
    private static final int MOST_CALLS = 512;
    private static final int NONE = -1;

    /** What is answered by the document, made plainly and slowly. */
    private static final class Oracle {
        private record Span(int person, int from, int to) { }

        private record Task(int skill, int from, int to, boolean always) { }

        private final List<Integer> persons = new ArrayList<>();
        private final List<Span> spans = new ArrayList<>();
        private final List<Task> tasks = new ArrayList<>();
        private final List<Integer> changed = new ArrayList<>();
        private List<Integer> plan = new ArrayList<>();
        private int rest = 0;
        private int limit = 96;
        private int frozen = 0;
        private int told = NONE;
        private boolean planned = false;

        int person(int skills) {
            argument(skills >= 0 && skills <= 255);
            state(persons.size() < 4);
            persons.add(skills);
            return persons.size() - 1;
        }

        int off(int person, int from, int to) {
            exists(person, persons.size());
            argument(0 <= from && from < to && to <= 96);
            state(spans.size() < 20);
            spans.add(new Span(person, from, to));
            return spans.size();
        }

        int task(int skill, int from, int to, boolean always) {
            exists(skill, 8);
            argument(0 <= from && from < to && to <= 96);
            state(tasks.size() < 6);
            tasks.add(new Task(skill, from, to, always));
            plan.add(NONE);
            return tasks.size() - 1;
        }

        int rest(int quarters) {
            argument(quarters >= 0 && quarters <= 96);
            int was = rest;
            rest = quarters;
            return was;
        }

        int limit(int quarters) {
            argument(quarters >= 0 && quarters <= 96);
            int was = limit;
            limit = quarters;
            return was;
        }

        int freeze(int until) {
            argument(until >= 0 && until <= 96);
            int was = frozen;
            frozen = until;
            return was;
        }

        int run() {
            List<List<Integer>> sought = sought(0);
            List<Integer> best = best(sought, false);
            told = best == null ? lacking(sought) : NONE;
            if (best == null) {
                return NONE;
            }
            plan = best;
            planned = true;
            return costOf(plan);
        }

        int told() {
            return told;
        }

        int of(int task) {
            exists(task, tasks.size());
            return plan.get(task);
        }

        int cost() {
            state(planned);
            return costOf(plan);
        }

        int absent(int person, int from) {
            exists(person, persons.size());
            argument(from >= 0 && from <= 95);
            state(planned && spans.size() < 20);
            spans.add(new Span(person, from, 96));
            List<List<Integer>> sought = sought(frozen);
            List<Integer> best = best(sought, true);
            told = best == null ? lacking(sought) : NONE;
            if (best == null) {
                spans.remove(spans.size() - 1);
                return NONE;
            }
            changed.clear();
            for (int t = 0; t < tasks.size(); t++) {
                if (!best.get(t).equals(plan.get(t))) {
                    changed.add(t);
                }
            }
            plan = best;
            return changed.size();
        }

        int changed(int k) {
            exists(k, changed.size());
            return changed.get(k);
        }

        int swap(int a, int b) {
            exists(a, tasks.size());
            exists(b, tasks.size());
            state(planned);
            List<Integer> would = new ArrayList<>(plan);
            would.set(a, plan.get(b));
            would.set(b, plan.get(a));
            int[] two = {a, b};
            for (int t : two) {
                if (tasks.get(t).from < frozen) {
                    return 1;
                }
            }
            for (int t : two) {
                if (tasks.get(t).always && would.get(t) == NONE) {
                    return 2;
                }
            }
            for (int t : two) {
                if (would.get(t) != NONE && !suits(would.get(t), t)) {
                    return 3;
                }
            }
            for (int t : two) {
                if (would.get(t) != NONE && !farApart(would, would.get(t))) {
                    return 4;
                }
            }
            for (int t : two) {
                if (would.get(t) != NONE && quartersOf(would, would.get(t)) > limit) {
                    return 5;
                }
            }
            plan = would;
            return 0;
        }

        int work(int person) {
            exists(person, persons.size());
            return quartersOf(plan, person);
        }

        int fair() {
            int[] numbers = new int[persons.size()];
            for (int doer : plan) {
                if (doer != NONE) {
                    numbers[doer]++;
                }
            }
            Arrays.sort(numbers);
            return numbers.length == 0 ? 0 : numbers[numbers.length - 1] - numbers[0];
        }

        int count(int what) {
            exists(what, 4);
            int[] numbers = {persons.size(), tasks.size(), spans.size(), changed.size()};
            return numbers[what];
        }

        private static void exists(int number, int size) {
            if (number < 0 || number >= size) {
                throw new NoSuchElementException();
            }
        }

        private static void argument(boolean good) {
            if (!good) {
                throw new IllegalArgumentException();
            }
        }

        private static void state(boolean good) {
            if (!good) {
                throw new IllegalStateException();
            }
        }

        private boolean suits(int person, int task) {
            Task it = tasks.get(task);
            for (int quarter = it.from; quarter < it.to; quarter++) {
                for (Span s : spans) {
                    if (s.person == person && s.from <= quarter && quarter < s.to) {
                        return false;
                    }
                }
            }
            return (persons.get(person) & (1 << it.skill)) != 0;
        }

        private boolean farApart(List<Integer> of, int person) {
            for (int t = 0; t < of.size(); t++) {
                for (int u = 0; u < of.size(); u++) {
                    if (t != u && of.get(t) == person && of.get(u) == person
                            && !(tasks.get(t).from - tasks.get(u).to >= rest)
                            && !(tasks.get(u).from - tasks.get(t).to >= rest)) {
                        return false;
                    }
                }
            }
            return true;
        }

        private int quartersOf(List<Integer> of, int person) {
            int sum = 0;
            for (int t = 0; t < of.size(); t++) {
                if (of.get(t) == person) {
                    sum += tasks.get(t).to - tasks.get(t).from;
                }
            }
            return sum;
        }

        private int costOf(List<Integer> of) {
            int[] numbers = new int[persons.size()];
            int sum = 0;
            for (int doer : of) {
                if (doer == NONE) {
                    sum += 100;
                } else {
                    numbers[doer]++;
                }
            }
            for (int n : numbers) {
                sum += n * n;
            }
            return sum;
        }

        /** All plans that keep what begins ahead of a quarter, with any ALWAYS empty or not. */
        private List<List<Integer>> sought(int keptBefore) {
            int each = persons.size() + 1;
            int all = (int) Math.pow(each, tasks.size());
            List<List<Integer>> good = new ArrayList<>();
            for (int code = 0; code < all; code++) {
                List<Integer> it = new ArrayList<>();
                int left = code;
                for (int t = 0; t < tasks.size(); t++) {
                    it.add(left % each - 1);
                    left /= each;
                }
                if (isSought(it, keptBefore)) {
                    good.add(it);
                }
            }
            return good;
        }

        private boolean isSought(List<Integer> it, int keptBefore) {
            for (int t = 0; t < tasks.size(); t++) {
                if (tasks.get(t).from < keptBefore) {
                    if (!it.get(t).equals(plan.get(t))) {
                        return false;
                    }
                } else if (it.get(t) != NONE && !suits(it.get(t), t)) {
                    return false;
                }
            }
            for (int p = 0; p < persons.size(); p++) {
                if (!farApart(it, p) || quartersOf(it, p) > limit) {
                    return false;
                }
            }
            return true;
        }

        private boolean mans(List<Integer> it, int lastAlways) {
            for (int t = 0; t <= lastAlways; t++) {
                if (tasks.get(t).always && it.get(t) == NONE) {
                    return false;
                }
            }
            return true;
        }

        private List<Integer> best(List<List<Integer>> of, boolean fewestChanges) {
            List<Integer> best = null;
            for (List<Integer> it : of) {
                if (mans(it, tasks.size() - 1) && (best == null || isBetter(it, best, fewestChanges))) {
                    best = it;
                }
            }
            return best;
        }

        private boolean isBetter(List<Integer> one, List<Integer> other, boolean fewestChanges) {
            if (fewestChanges && changesOf(one) != changesOf(other)) {
                return changesOf(one) < changesOf(other);
            }
            if (costOf(one) != costOf(other)) {
                return costOf(one) < costOf(other);
            }
            for (int t = 0; t < one.size(); t++) {
                if (!one.get(t).equals(other.get(t))) {
                    return other.get(t) == NONE || one.get(t) != NONE && one.get(t) < other.get(t);
                }
            }
            return false;
        }

        private int changesOf(List<Integer> it) {
            int number = 0;
            for (int t = 0; t < it.size(); t++) {
                if (!it.get(t).equals(plan.get(t))) {
                    number++;
                }
            }
            return number;
        }

        private int lacking(List<List<Integer>> of) {
            for (int t = 0; t < tasks.size(); t++) {
                boolean manned = false;
                for (List<Integer> it : of) {
                    manned = manned || mans(it, t);
                }
                if (tasks.get(t).always && !manned) {
                    return tasks.get(t).from;
                }
            }
            return NONE;
        }
    }

    private final GuidePlans real = new GuidePlans();
    private final Oracle oracle = new Oracle();
    private final Random random;
    private final int lengthOfDay;
    private final List<String> told = new ArrayList<>();
    private int calls = 0;
    private boolean wrong = false;

    private OracleTest(long seed) {
        random = new Random(seed);
        // tasks crowd in a short day, so that rests, limits and spans off matter
        lengthOfDay = random.nextBoolean() ? 96 : 12 + random.nextInt(30);
    }

    public static void main(String[] args) {
        int runs = args.length > 0 ? Integer.parseInt(args[0]) : RUNS;
        int[] seen = new int[6];
        for (int seed = 0; seed < runs; seed++) {
            OracleTest one = new OracleTest(seed);
            one.go();
            if (one.wrong) {
                System.out.println("seed " + seed + ":");
                for (String line : one.told) {
                    System.out.println("  " + line);
                }
                System.exit(1);
            }
            one.noteSeen(seen);
        }
        System.out.println(runs + " random runs agree; run of a cost, run NONE, absent found, absent NONE, "
            + "swap 0, swap refused: " + Arrays.toString(seen));
        for (int number : seen) {
            if (number < runs / 10) {
                System.out.println("a kind of answer is too rare for this test to say something");
                System.exit(1);
            }
        }
    }

    private void noteSeen(int[] seen) {
        for (String line : told) {
            boolean thrown = line.contains("Exception");
            boolean none = line.endsWith(" " + NONE);
            if (line.startsWith("run")) {
                seen[none ? 1 : 0]++;
            } else if (line.startsWith("absent") && !thrown) {
                seen[none ? 3 : 2]++;
            } else if (line.startsWith("swap") && !thrown) {
                seen[line.endsWith(" 0") ? 4 : 5]++;
            }
        }
    }

    private void go() {
        int first = random.nextInt(8);
        for (int n = 0; n < first && !wrong; n++) {
            build();
        }
        while (calls < MOST_CALLS && !wrong) {
            step();
            observe();
        }
    }

    private void same(String call, IntSupplier ofReal, IntSupplier ofOracle) {
        if (calls >= MOST_CALLS) {
            return;
        }
        calls++;
        String got = outcome(ofReal);
        String due = outcome(ofOracle);
        told.add(call + " -> " + got);
        if (!got.equals(due)) {
            wrong = true;
            told.add("due was " + due);
        }
    }

    private static String outcome(IntSupplier call) {
        try {
            return String.valueOf(call.getAsInt());
        } catch (RuntimeException e) {
            return e.getClass().getSimpleName();
        }
    }

    private int quarter() {
        return rarely() ? random.nextInt(130) - 20 : random.nextInt(lengthOfDay + 1);
    }

    private int number(int below) {
        return rarely() ? random.nextInt(below + 6) - 3 : random.nextInt(Math.max(1, below));
    }

    private boolean rarely() {
        return random.nextInt(30) == 0;
    }

    private void build() {
        if (random.nextInt(5) < 2) {
            int skills = rarely() ? random.nextInt(600) - 100 : random.nextInt(4) | random.nextInt(4);
            same("person(" + skills + ")", () -> real.person(skills), () -> oracle.person(skills));
        } else {
            int skill = rarely() ? number(8) : random.nextInt(2);
            int from = quarter();
            int to = rarely() ? quarter() : from + 1 + random.nextInt(8);
            boolean always = random.nextInt(3) == 0;
            same("task(" + skill + ", " + from + ", " + to + ", " + always + ")",
                () -> real.task(skill, from, to, always), () -> oracle.task(skill, from, to, always));
        }
    }

    private void step() {
        switch (random.nextInt(12)) {
            case 0, 1 -> build();
            case 2 -> stepOff();
            case 3 -> stepRules();
            case 4, 5, 6 -> same("run()", real::run, oracle::run);
            case 7, 8, 9 -> stepAbsent();
            default -> stepSwap();
        }
    }

    private void stepOff() {
        int p = number(oracle.persons.size());
        int from = quarter();
        int to = rarely() ? quarter() : from + 1 + random.nextInt(6);
        same("off(" + p + ", " + from + ", " + to + ")", () -> real.off(p, from, to), () -> oracle.off(p, from, to));
    }

    private void stepRules() {
        int rest = rarely() ? quarter() : random.nextInt(6);
        int limit = rarely() ? quarter() : 4 + random.nextInt(30);
        int frozen = random.nextInt(3) == 0 ? 0 : quarter() / 2;
        switch (random.nextInt(3)) {
            case 0 -> same("rest(" + rest + ")", () -> real.rest(rest), () -> oracle.rest(rest));
            case 1 -> same("limit(" + limit + ")", () -> real.limit(limit), () -> oracle.limit(limit));
            default -> same("freeze(" + frozen + ")", () -> real.freeze(frozen), () -> oracle.freeze(frozen));
        }
    }

    private void stepAbsent() {
        int p = number(oracle.persons.size());
        int from = random.nextBoolean() ? quarter() : 95 - random.nextInt(4);
        same("absent(" + p + ", " + from + ")", () -> real.absent(p, from), () -> oracle.absent(p, from));
    }

    private void stepSwap() {
        int a = number(oracle.tasks.size());
        int b = number(oracle.tasks.size());
        same("swap(" + a + ", " + b + ")", () -> real.swap(a, b), () -> oracle.swap(a, b));
    }

    private void observe() {
        int size = told.size();
        boolean beyond = rarely();
        look("of", beyond, oracle.tasks.size(), real::of, oracle::of);
        look("work", beyond, oracle.persons.size(), real::work, oracle::work);
        look("changed", beyond, oracle.changed.size(), real::changed, oracle::changed);
        look("count", beyond, 4, real::count, oracle::count);
        same("cost()", real::cost, oracle::cost);
        same("told()", real::told, oracle::told);
        same("fair()", real::fair, oracle::fair);
        if (!wrong) {
            told.subList(size, told.size()).clear();
        }
    }

    /** Asks for all numbers there are, and at times for one on each side of them. */
    private void look(String name, boolean beyond, int size, IntUnaryOperator ofReal, IntUnaryOperator ofOracle) {
        int more = beyond ? 1 : 0;
        for (int n = -more; n < size + more && !wrong; n++) {
            int k = n;
            same(name + "(" + k + ")", () -> ofReal.applyAsInt(k), () -> ofOracle.applyAsInt(k));
        }
    }
}
