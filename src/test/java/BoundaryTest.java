/**
 * The boundary cases, in the document's order: each sentence that names one stands above its runs. That a
 * refused call changes nothing is looked at by Rows behind every row that is refused.
 */
public final class BoundaryTest {
    private static final String NO_SUCH = "NoSuchElementException";
    private static final String ARGUMENT = "IllegalArgumentException";
    private static final String STATE = "IllegalStateException";
    private static final String[] NEW = {};
    /** Two persons, three tasks, of which an absence made one empty; all rules set, and a begin told. */
    private static final String[] USED = {
        "person(3)", "person(1)", "off(1, 90, 91)", "task(0, 10, 20, always)", "task(0, 10, 20, once)",
        "task(1, 40, 50, once)", "run() = 5", "rest(3)", "limit(30)", "freeze(5)", "absent(1, 15) = 1",
        "absent(0, 15) = NONE", "told() = 10"};
    private static final String[] FOUR_PERSONS = Rows.times(4, "person(3)");
    private static final String[] SIX_TASKS = Rows.rows("person(1)", Rows.times(6, "task(0, 10, 20, once)"));
    /** They leave no quarter of the day, so that one person has all six just with the limit at first. */
    private static final String[] SIX_IN_A_ROW = {
        "task(0, 0, 16, once)", "task(0, 16, 32, once)", "task(0, 32, 48, once)", "task(0, 48, 64, once)",
        "task(0, 64, 80, once)", "task(0, 80, 96, once)"};
    private static final String[] TWENTY_SPANS = Rows.rows("person(1)", Rows.times(20, "off(0, 0, 1)"));
    /** What no number of a person, task, skill, change or kind may be, small numbers in a wrapped form among them. */
    private static final String[] NEVER_A_NUMBER = {
        "-1", "-2", "-8", "-32", "-256", "-2147483648", "2147483647", "32", "64", "256", "65536"};
    /** What no quarter and no number of quarters may be. */
    private static final String[] NEVER_QUARTERS = {
        "-1", "-96", "-2147483648", "97", "192", "256", "65536", "2147483647"};

    public static void main(String[] args) {
        calls();
        quarters();
        persons();
        skills();
        tasks();
        always();
        spans();
        suits();
        restOfTwo();
        hoursTogether();
        cost();
        anew();
        frozen();
        kept();
        fewest();
        newObject();
        person();
        off();
        task();
        rest();
        limit();
        freeze();
        run();
        told();
        toldOfAbsent();
        of();
        costOfThePlan();
        absent();
        absentRefused();
        changed();
        swap();
        swapRefused();
        swapFirstThatHolds();
        swapWrong();
        work();
        fair();
        count();
        Rows.end();
    }

    private static String[] each(String call, String[] values) {
        String[] calls = new String[values.length];
        for (int n = 0; n < values.length; n++) {
            calls[n] = call.replace("#", values[n]);
        }
        return calls;
    }

    // Terms

    private static void calls() {
        Rows.sentence("An object is used for at most 512 calls after it has been made.");
        Rows.run("the 512th call", Rows.rows("person(1) = 0", "person(1) = 1", "task(0, 10, 20, always) = 0",
            Rows.times(126, "run() = 1", "swap(0, 0) = 0", "cost() = 1", "of(0) = 0"), "absent(0, 0) = 1",
            "changed(0) = 0", "count(2) = 1", "of(0) = 1", "run() = 1"));
    }

    private static void quarters() {
        Rows.sentence("QUARTERS of a day are 0 .. 95.");
        Rows.run("the first and the last", "person(1)", "person(1)", "task(0, 0, 1, once) = 0",
            "task(0, 95, 96, once) = 1", "off(0, 0, 1) = 1", "off(1, 95, 96) = 2", "run() = 2", "plan 1 0",
            "absent(0, 95) = 1", "plan 1 NONE");
        Rows.refused(ARGUMENT, USED, "off(0, -1, 1)", "off(0, 96, 97)", "off(0, 95, 97)", "task(0, -1, 1, once)",
            "task(0, 96, 97, once)", "task(0, 95, 97, once)", "absent(0, -1)", "absent(0, 96)");
    }

    private static void persons() {
        Rows.sentence("PERSONS are 0, 1, .. , at most four.");
        Rows.run("the fourth is one as the first", "person(1) = 0", "person(1) = 1", "person(1) = 2", "person(2) = 3",
            "count(0) = 4", "person(1) throws." + STATE, "count(0) = 4", "task(1, 0, 96, always)", "run() = 1",
            "plan 3", "work(3) = 96", "off(3, 0, 1) = 1", "run() = NONE", "of(0) = 3");
    }

    private static void skills() {
        Rows.sentence("each with a set of SKILLS 0 .. 7");
        for (int skill = 0; skill <= 7; skill++) {
            String task = "task(" + skill + ", 10, 20, once)";
            Rows.run("the one who has it", "person(" + (255 - (1 << skill)) + ")", "person(" + (1 << skill) + ")", task,
                "run() = 1", "plan 1");
            Rows.run("all but this one", "person(" + (255 - (1 << skill)) + ")", task, "run() = 100", "plan NONE");
            Rows.run("no skill", "person(0)", task, "run() = 100", "plan NONE");
            Rows.run("all skills", "person(255)", task, "run() = 1", "plan 0");
        }
    }

    private static void tasks() {
        Rows.sentence("TASKS are 0, 1, .. , at most six, each with a skill, from a quarter up to (not with) "
            + "another one, 1 .. 96");
        Rows.run("the sixth is one as the first", Rows.rows("person(1)", "person(2)",
            Rows.times(5, "task(0, 10, 20, once)"), "task(1, 95, 96, once) = 5", "count(1) = 6",
            "task(0, 0, 1, once) throws." + STATE, "count(1) = 6", "run() = 402", "plan 0 NONE NONE NONE NONE 1",
            "work(1) = 1"));
        Rows.run("not with its end", "person(1)", "task(0, 0, 48, once)", "task(0, 48, 96, once)", "run() = 4",
            "plan 0 0");
        Rows.run("with its last quarter", "person(1)", "task(0, 0, 49, once)", "task(0, 48, 96, once)", "run() = 101");
        Rows.run("the least end", "person(1)", "task(0, 0, 1, once) = 0", "run() = 1", "work(0) = 1");
        Rows.run("the whole day", "person(1)", "task(0, 0, 96, once) = 0", "run() = 1", "work(0) = 96");
    }

    private static void always() {
        Rows.sentence("a task may be an ALWAYS, that must not be empty");
        Rows.run("an ALWAYS that none can do", "person(1)", "task(1, 10, 20, always)", "run() = NONE");
        Rows.run("another task that none can do", "person(1)", "task(1, 10, 20, once)", "run() = 100");
        Rows.run("the sixth is an ALWAYS", Rows.rows("person(1)", Rows.times(5, "task(0, 10, 20, once)"),
            "task(0, 10, 20, always)", "run() = 501", "plan NONE NONE NONE NONE NONE 0"));
        Rows.run("all six, one each time", Rows.rows("person(1)", "task(0, 0, 16, always)", "task(0, 16, 32, always)",
            "task(0, 32, 48, always)", "task(0, 48, 64, always)", "task(0, 64, 80, always)", "task(0, 80, 96, always)",
            "run() = 36", "limit(95)", "run() = NONE", "told() = 80"));
    }

    private static void spans() {
        Rows.sentence("A person may be OFF from a quarter up to (not with) another one, at most 20 such spans of "
            + "all.");
        Rows.run("of all persons together", Rows.rows("person(1)", "person(1)", "person(1)", "person(1)",
            Rows.times(5, "off(0, 0, 1)", "off(1, 0, 1)", "off(2, 0, 1)"), Rows.times(4, "off(3, 0, 1)"),
            "count(2) = 19", "off(3, 5, 6) = 20", "off(0, 0, 1) throws." + STATE, "off(1, 0, 1) throws." + STATE,
            "off(2, 0, 1) throws." + STATE, "off(3, 0, 1) throws." + STATE, "count(2) = 20"));
        Rows.run("those of absent() too", Rows.rows("person(1)", "run() = 0", Rows.times(19, "off(0, 0, 1)"),
            "absent(0, 5) = 0", "count(2) = 20", "off(0, 0, 1) throws." + STATE, "absent(0, 5) throws." + STATE));
        Rows.run("the first and the 20th count", Rows.rows("person(1)", "person(1)", "off(0, 10, 11) = 1",
            Rows.times(18, "off(0, 90, 91)"), "off(1, 30, 31) = 20", "task(0, 10, 11, once)", "task(0, 30, 31, once)",
            "task(0, 90, 91, once)", "run() = 5", "plan 1 0 1"));
    }

    private static void suits() {
        Rows.sentence("A person SUITS a task with the skill of it and no quarter off in it.");
        String[] beside = {"0, 10", "9, 10", "20, 21", "20, 96"};
        String[] inside = {"9, 11", "10, 11", "0, 11", "12, 13", "19, 20", "19, 21", "19, 96", "10, 20", "0, 96",
            "9, 21"};
        for (String span : beside) {
            Rows.run("off beside it " + span, "person(1)", "task(0, 10, 20, once)", "off(0, " + span + ")", "run() = 1",
                "plan 0");
        }
        for (String span : inside) {
            Rows.run("off in it " + span, "person(1)", "task(0, 10, 20, once)", "off(0, " + span + ")", "run() = 100",
                "plan NONE");
            Rows.run("another is off " + span, "person(1)", "person(0)", "task(0, 10, 20, once)",
                "off(1, " + span + ")", "run() = 1");
        }
        Rows.run("the day's first quarter", "person(1)", "task(0, 0, 1, once)", "off(0, 1, 96)", "run() = 1",
            "off(0, 0, 1)", "run() = 100");
        Rows.run("the day's last quarter", "person(1)", "task(0, 95, 96, once)", "off(0, 0, 95)", "run() = 1",
            "off(0, 95, 96)", "run() = 100");
        Rows.run("the skill without time", "person(2)", "task(0, 10, 20, once)", "run() = 100");
    }

    private static void restOfTwo() {
        Rows.sentence("for each two of them one begins at least REST quarters (0 at first) behind the other's end");
        String[] early = {"task(0, 10, 20, once)", "task(0, 25, 30, once)"};
        String[] late = {"task(0, 25, 30, once)", "task(0, 10, 20, once)"};
        for (String[] tasks : new String[][] {early, late}) {
            Rows.run("five quarters lie between", Rows.rows("person(1)", tasks, "rest(5)", "run() = 4", "plan 0 0",
                "rest(6)", "run() = 101", "plan 0 NONE"));
        }
        Rows.run("0 at first, one at the other's end", "person(1)", "task(0, 20, 30, once)", "task(0, 10, 20, once)",
            "run() = 4", "rest(1) = 0", "run() = 101");
        Rows.run("one quarter is of both", "person(1)", "task(0, 19, 30, once)", "task(0, 10, 20, once)",
            "run() = 101");
        Rows.run("one within the other", "person(1)", "task(0, 10, 20, once)", "task(0, 14, 15, once)", "run() = 101");
        Rows.run("both the same", "person(1)", "task(0, 10, 11, once)", "task(0, 10, 11, once)", "run() = 101");
        Rows.run("as far as can be", "person(1)", "task(0, 95, 96, once)", "task(0, 0, 1, once)", "rest(94)",
            "run() = 4", "rest(95)", "run() = 101", "rest(96)", "run() = 101");
        Rows.run("a single task needs no rest", "person(1)", "task(0, 0, 96, always)", "rest(96)", "run() = 1");
        Rows.run("the first and the last of six", "person(1)", "task(0, 0, 10, once)", "task(0, 20, 30, once)",
            "task(0, 40, 50, once)", "task(0, 60, 70, once)", "task(0, 80, 90, once)", "task(0, 5, 15, once)",
            "run() = 125", "plan 0 0 0 0 0 NONE");
        Rows.run("the two last of six", "person(1)", "task(0, 0, 10, once)", "task(0, 20, 30, once)",
            "task(0, 40, 50, once)", "task(0, 60, 70, once)", "task(0, 80, 90, once)", "task(0, 89, 90, once)",
            "run() = 125", "plan 0 0 0 0 0 NONE");
        Rows.run("two persons' tasks need none", "person(1)", "person(1)", "task(0, 10, 20, once)",
            "task(0, 10, 20, once)", "rest(96)", "run() = 2");
    }

    private static void hoursTogether() {
        Rows.sentence("all of them have together no more than LIMIT quarters (96 at first)");
        Rows.run("96 at first", "person(1)", "task(0, 0, 48, once)", "task(0, 48, 96, once)", "run() = 4",
            "limit(95) = 96", "run() = 101");
        Rows.run("one task of the whole day", "person(1)", "task(0, 0, 96, once)", "run() = 1", "limit(95) = 96",
            "run() = 100");
        Rows.run("two and one and none", "person(1)", "task(0, 10, 20, once)", "task(0, 30, 40, once)", "limit(20)",
            "run() = 4", "limit(19)", "run() = 101", "plan 0 NONE", "limit(10)", "run() = 101", "limit(9)",
            "run() = 200", "limit(0)", "run() = 200");
        Rows.run("a limit of one quarter", "person(1)", "task(0, 10, 11, once)", "limit(1)", "run() = 1", "limit(0)",
            "run() = 100");
        Rows.run("six tasks", Rows.rows("person(1)", SIX_IN_A_ROW, "run() = 36", "limit(95)", "run() = 125",
            "plan 0 0 0 0 0 NONE"));
        Rows.run("each has hours of his own", "person(1)", "person(1)", "task(0, 0, 10, once)", "task(0, 0, 10, once)",
            "limit(10)", "run() = 2");
    }

    private static void cost() {
        Rows.sentence("COST: 100 for each task with none, and for each person the square of how many tasks he has");
        Rows.run("no task", "person(1)", "run() = 0", "cost() = 0");
        Rows.run("no person", Rows.rows(Rows.times(6, "task(0, 0, 1, once)"), "run() = 600", "cost() = 600"));
        Rows.run("one has six", Rows.rows("person(1)", SIX_IN_A_ROW, "run() = 36", "person(1)", "run() = 18",
            "person(1)", "run() = 12", "person(1)", "run() = 10", "cost() = 10"));
    }

    private static void anew() {
        Rows.sentence("that with the least cost, of equal ones that which has the lower person (none: above all) "
            + "for the first task in which they differ");
        Rows.run("the cost goes ahead of the order", "person(1)", "person(1)", "task(0, 0, 1, once)",
            "task(0, 2, 3, once)", "run() = 2", "plan 0 1");
        Rows.run("the lower person for the first task", Rows.rows(FOUR_PERSONS, "task(0, 0, 1, once)", "run() = 1",
            "plan 0"));
        Rows.run("the first task in which they differ", "person(1)", "person(1)", "task(0, 0, 1, once)",
            "task(0, 2, 3, once)", "task(0, 4, 5, once)", "run() = 5", "plan 0 0 1");
        Rows.run("none is above the last person", "person(2)", "person(2)", "person(2)", "person(1)",
            "task(0, 10, 20, once)", "task(0, 10, 20, once)", "run() = 101", "plan 3 NONE");
        Rows.run("an ALWAYS is worth any cost", "person(1)", "task(0, 10, 20, once)", "task(0, 30, 40, once)",
            "task(0, 12, 38, always)", "run() = 201", "plan NONE NONE 0");
    }

    private static void frozen() {
        Rows.sentence("A task that begins ahead of the FROZEN quarter (0 at first: none) KEEPS what the plan says.");
        Rows.run("0 at first", "person(1)", "person(1)", "task(0, 0, 1, once)", "run() = 1", "absent(0, 0) = 1",
            "plan 1");
        Rows.run("the day's first quarter", "person(1)", "person(1)", "task(0, 0, 1, once)", "run() = 1", "freeze(1)",
            "absent(0, 0) = 0", "plan 0");
        Rows.run("it begins at the quarter", "person(1)", "person(1)", "task(0, 10, 20, once)", "run() = 1",
            "freeze(10)", "absent(0, 0) = 1", "plan 1");
        Rows.run("it begins ahead of the quarter", "person(1)", "person(1)", "task(0, 10, 20, once)", "run() = 1",
            "freeze(11)", "absent(0, 0) = 0", "plan 0");
        Rows.run("it begins at the day's last", "person(1)", "person(1)", "task(0, 95, 96, once)", "run() = 1",
            "freeze(95)", "absent(0, 0) = 1", "plan 1");
        Rows.run("all is frozen", "person(1)", "person(1)", "task(0, 95, 96, once)", "run() = 1", "freeze(96)",
            "absent(0, 0) = 0", "plan 0");
        Rows.run("an empty task stays empty", "person(1)", "person(2)", "task(0, 10, 20, once)",
            "task(1, 10, 20, once)", "off(0, 0, 96)", "run() = 101", "person(1)", "freeze(11)", "absent(1, 90) = 0",
            "plan NONE 1");
    }

    private static void kept() {
        Rows.sentence("keep those tasks as they are (whether the person suits them or not; their sets have to be "
            + "allowed all the same, and an ALWAYS that is kept empty lets no plan be)");
        Rows.run("a kept person is off", "person(1)", "person(1)", "task(0, 10, 20, always)", "run() = 1",
            "off(0, 0, 96)", "freeze(11)", "absent(0, 0) = 0", "plan 0", "freeze(10)", "absent(0, 0) = 1", "plan 1");
        String[] two = {"person(1)", "task(0, 10, 20, once)", "task(0, 25, 35, once)", "run() = 4"};
        Rows.run("both are kept, the rest", Rows.rows(two, "freeze(26)", "rest(5)", "absent(0, 90) = 0", "rest(6)",
            "absent(0, 90) = NONE", "plan 0 0", "told() = NONE"));
        Rows.run("both are kept, the limit", Rows.rows(two, "freeze(26)", "limit(20)", "absent(0, 90) = 0", "limit(19)",
            "absent(0, 90) = NONE", "plan 0 0", "told() = NONE"));
        Rows.run("both are kept, another is absent", "person(2)", "person(1)", "task(0, 10, 20, once)",
            "task(0, 25, 35, once)", "run() = 4", "freeze(26)", "rest(5)", "absent(0, 0) = 0", "rest(6)",
            "absent(0, 0) = NONE", "rest(0)", "limit(20)", "absent(0, 0) = 0", "limit(19)", "absent(0, 0) = NONE");
        Rows.run("the second is free, the rest", Rows.rows(two, "freeze(25)", "rest(6)", "absent(0, 90) = 1",
            "plan 0 NONE"));
        Rows.run("the second is free, the limit", Rows.rows(two, "freeze(25)", "limit(19)", "absent(0, 90) = 1",
            "plan 0 NONE"));
        Rows.run("the first is free, the rest", "person(1)", "task(0, 25, 35, once)", "task(0, 10, 20, once)",
            "run() = 4", "freeze(25)", "rest(6)", "absent(0, 90) = 1", "plan NONE 0");
        Rows.run("nothing is kept", Rows.rows(two, "rest(6)", "absent(0, 90) = 1", "plan 0 NONE"));
        String[] empty = {"person(1)", "person(1)", "task(0, 50, 60, always)", "run() = 1", "task(0, 10, 20, always)"};
        Rows.run("an ALWAYS is kept empty", Rows.rows(empty, "freeze(11)", "absent(0, 90) = NONE", "told() = 10",
            "plan 0 NONE"));
        Rows.run("an empty ALWAYS is not kept", Rows.rows(empty, "freeze(10)", "absent(0, 90) = 1", "told() = NONE",
            "plan 0 1"));
        Rows.run("another empty task is kept", "person(1)", "task(0, 50, 60, always)", "run() = 1",
            "task(0, 10, 20, once)", "freeze(11)", "absent(0, 90) = 0", "plan 0 NONE");
    }

    private static void fewest() {
        Rows.sentence("that with the fewest tasks that have another person (or none) than ahead of that, then "
            + "the least cost, then as above");
        Rows.run("no change is better than a low cost", "person(1)", "run() = 0", "task(0, 10, 20, once)",
            "absent(0, 90) = 0", "plan NONE", "cost() = 100");
        Rows.run("one change is better than two of less cost", "person(1)", "person(3)", "task(0, 0, 10, once)",
            "task(1, 20, 30, once)", "task(1, 40, 50, once)", "run() = 5", "plan 0 1 1", "person(2)",
            "absent(0, 0) = 1", "plan 1 1 1", "cost() = 9");
        Rows.run("one empty task is better than two changes", "person(1)", "person(3)", "task(0, 0, 10, once)",
            "task(1, 0, 10, once)", "run() = 2", "plan 0 1", "person(2)", "absent(0, 0) = 1", "plan NONE 1",
            "cost() = 101");
        Rows.run("none is a change too", "person(1)", "task(0, 10, 20, once)", "run() = 1", "absent(0, 0) = 1",
            "plan NONE", "changed(0) = 0");
        Rows.run("then the least cost", "person(1)", "person(1)", "person(1)", "task(0, 0, 5, once)",
            "task(0, 10, 15, once)", "task(0, 20, 25, once)", "task(0, 30, 35, once)", "run() = 6", "plan 0 0 1 2",
            "absent(1, 0) = 1", "plan 0 0 2 2", "cost() = 8");
        Rows.run("then the lower person", "person(1)", "person(1)", "person(1)", "task(0, 0, 5, once)", "run() = 1",
            "absent(0, 0) = 1", "plan 1");
        Rows.run("so too behind a run() without a plan", "person(1)", "person(1)", "person(1)", "task(0, 0, 5, always)",
            "task(0, 10, 15, once)", "task(0, 20, 25, once)", "task(0, 30, 35, once)", "run() = 6", "limit(0)",
            "run() = NONE", "limit(96)", "absent(1, 0) = 1", "plan 0 0 2 2", "cost() = 8");
        Rows.run("then none for the later task", "person(1)", "task(0, 10, 20, once)", "task(0, 30, 40, once)",
            "run() = 4", "rest(11)", "absent(0, 90) = 1", "plan 0 NONE");
        Rows.run("two changes where one does not do", "person(1)", "person(3)", "task(0, 0, 10, always)",
            "task(1, 0, 10, once)", "run() = 2", "absent(0, 0) = 2", "plan 1 NONE", "changed(0) = 0", "changed(1) = 1");
    }

    // the promises

    private static void newObject() {
        Rows.sentence("Promise 1: No persons, no tasks, no plan.");
        Rows.run("nothing is there", "count(0) = 0", "count(1) = 0", "count(2) = 0", "count(3) = 0", "fair() = 0",
            "told() = NONE", "rest(0) = 0", "limit(96) = 96", "freeze(0) = 0");
        Rows.refused(STATE, NEW, "cost()");
        Rows.refused(NO_SUCH, NEW, "of(0)", "work(0)", "changed(0)", "off(0, 0, 1)", "absent(0, 0)", "swap(0, 0)");
        Rows.run("the first of each", "run() = 0", "person(0) = 0", "task(0, 0, 1, once) = 0", "off(0, 0, 1) = 1");
    }

    private static void person() {
        Rows.sentence("Promise 2: A person with a set of skills, by bits: its number.");
        Rows.run("least and greatest", "person(0) = 0", "person(255) = 1", "person(1) = 2", "person(254) = 3");
        Rows.sentence("Promise 2: IllegalArgumentException: skills is not 0 .. 255.");
        Rows.refused(ARGUMENT, NEW, each("person(#)", new String[] {"-1", "256", "257", "511", "65536", "-256",
            "-2147483648", "2147483647"}));
        Rows.refused(ARGUMENT, USED, "person(-1)", "person(256)");
        Rows.sentence("Promise 2: IllegalStateException: there are four.");
        Rows.refused(STATE, FOUR_PERSONS, "person(0)", "person(1)", "person(255)");
        Rows.run("after three there is room", "person(1)", "person(1)", "person(1)", "person(1) = 3",
            "person(1) throws." + STATE);
        Rows.sentence("Promise 2: IllegalArgumentException, then IllegalStateException");
        Rows.refused(ARGUMENT, FOUR_PERSONS, "person(-1)", "person(256)");
    }

    private static void off() {
        Rows.sentence("Promise 3: A person is off: how many spans there are.");
        Rows.run("least, greatest, and one again", "person(1)", "person(1)", "off(0, 0, 1) = 1", "off(0, 95, 96) = 2",
            "off(0, 0, 96) = 3", "off(1, 0, 96) = 4", "off(1, 0, 96) = 5", "count(2) = 5");
        Rows.run("the plan stays", "person(1)", "task(0, 10, 20, always)", "run() = 1", "off(0, 0, 96) = 1", "plan 0",
            "cost() = 1", "run() = NONE");
        Rows.sentence("Promise 3: NoSuchElementException");
        Rows.refused(NO_SUCH, NEW, "off(0, 0, 1)");
        Rows.refused(NO_SUCH, USED, "off(2, 0, 1)", "off(3, 0, 1)", "off(4, 0, 1)");
        Rows.refused(NO_SUCH, USED, each("off(#, 0, 1)", NEVER_A_NUMBER));
        Rows.refused(NO_SUCH, FOUR_PERSONS, "off(4, 0, 1)");
        Rows.sentence("Promise 3: IllegalArgumentException: not 0 <= from < to <= 96.");
        Rows.refused(ARGUMENT, USED, "off(0, 0, 0)", "off(0, 5, 5)", "off(0, 6, 5)", "off(0, 96, 96)", "off(0, 95, 95)",
            "off(0, 0, -1)", "off(0, -2147483648, 2147483647)", "off(0, 2147483647, -2147483648)", "off(0, 96, 0)");
        Rows.refused(ARGUMENT, USED, each("off(0, #, 96)", NEVER_QUARTERS));
        Rows.refused(ARGUMENT, USED, each("off(0, 0, #)", NEVER_QUARTERS));
        Rows.sentence("Promise 3: IllegalStateException: there are 20.");
        Rows.refused(STATE, TWENTY_SPANS, "off(0, 0, 1)", "off(0, 0, 96)", "off(0, 95, 96)");
        Rows.sentence("Promise 3: NoSuchElementException, IllegalArgumentException, then IllegalStateException");
        Rows.refused(NO_SUCH, USED, "off(2, 5, 5)", "off(-1, -1, 97)");
        Rows.refused(NO_SUCH, TWENTY_SPANS, "off(1, 0, 1)", "off(1, 5, 5)", "off(-1, 0, 97)");
        Rows.refused(ARGUMENT, TWENTY_SPANS, "off(0, 5, 5)", "off(0, -1, 5)", "off(0, 0, 97)");
    }

    private static void task() {
        Rows.sentence("Promise 4: A task (none has it in the plan): its number.");
        Rows.run("least, greatest and the last skill", "task(0, 0, 1, once) = 0", "task(7, 95, 96, always) = 1",
            "task(7, 0, 96, once) = 2", "plan NONE NONE NONE");
        Rows.run("behind a plan", "person(1)", "task(0, 0, 10, once)", "run() = 1", "task(0, 20, 30, always) = 1",
            "plan 0 NONE", "cost() = 101", "work(0) = 10", "fair() = 0");
        Rows.sentence("Promise 4: NoSuchElementException: skill.");
        Rows.refused(NO_SUCH, NEW, "task(8, 0, 1, once)", "task(-1, 0, 1, always)");
        Rows.refused(NO_SUCH, USED, "task(8, 0, 1, always)");
        Rows.refused(NO_SUCH, USED, each("task(#, 0, 1, once)", NEVER_A_NUMBER));
        Rows.sentence("Promise 4: IllegalArgumentException: not 0 <= from < to <= 96.");
        Rows.refused(ARGUMENT, USED, "task(0, 0, 0, once)", "task(0, 5, 5, once)", "task(0, 6, 5, always)",
            "task(0, 96, 96, once)", "task(0, 95, 95, once)", "task(7, 0, -1, once)",
            "task(0, -2147483648, 2147483647, once)", "task(0, 2147483647, -2147483648, once)", "task(0, 96, 0, once)");
        Rows.refused(ARGUMENT, USED, each("task(0, #, 96, once)", NEVER_QUARTERS));
        Rows.refused(ARGUMENT, USED, each("task(0, 0, #, once)", NEVER_QUARTERS));
        Rows.sentence("Promise 4: IllegalStateException: there are six.");
        Rows.refused(STATE, SIX_TASKS, "task(0, 0, 1, once)", "task(7, 95, 96, always)", "task(0, 0, 96, once)");
        Rows.run("after five there is room",
            Rows.rows(Rows.times(5, "task(0, 0, 1, once)"), "task(0, 0, 1, once) = 5",
            "task(0, 0, 1, once) throws." + STATE));
        Rows.sentence("Promise 4: NoSuchElementException, IllegalArgumentException, then IllegalStateException");
        Rows.refused(NO_SUCH, USED, "task(8, 5, 5, once)", "task(-1, -1, 97, once)");
        Rows.refused(NO_SUCH, SIX_TASKS, "task(8, 0, 1, once)", "task(8, 5, 5, once)", "task(-1, 0, 97, always)");
        Rows.refused(ARGUMENT, SIX_TASKS, "task(0, 5, 5, once)", "task(7, -1, 5, once)", "task(0, 0, 97, always)");
    }

    private static void rest() {
        Rows.sentence("Promise 5: How many quarters of rest: what it was.");
        Rows.run("least and greatest", "rest(0) = 0", "rest(96) = 0", "rest(95) = 96", "rest(1) = 95", "rest(0) = 1",
            "rest(0) = 0");
        Rows.run("the plan stays", "person(1)", "task(0, 0, 10, once)", "task(0, 10, 20, once)", "run() = 4",
            "rest(96)", "plan 0 0", "cost() = 4", "run() = 101");
        Rows.sentence("Promise 5: IllegalArgumentException: it is not 0 .. 96.");
        Rows.refused(ARGUMENT, NEW, each("rest(#)", NEVER_QUARTERS));
        Rows.refused(ARGUMENT, USED, each("rest(#)", NEVER_QUARTERS));
    }

    private static void limit() {
        Rows.sentence("Promise 6: How many quarters a person may have: what it was.");
        Rows.run("least and greatest", "limit(96) = 96", "limit(0) = 96", "limit(1) = 0", "limit(95) = 1",
            "limit(96) = 95", "limit(96) = 96");
        Rows.run("the plan stays", "person(1)", "task(0, 0, 10, always)", "run() = 1", "limit(0)", "plan 0",
            "cost() = 1", "run() = NONE", "plan 0");
        Rows.sentence("Promise 6: IllegalArgumentException: it is not 0 .. 96.");
        Rows.refused(ARGUMENT, NEW, each("limit(#)", NEVER_QUARTERS));
        Rows.refused(ARGUMENT, USED, each("limit(#)", NEVER_QUARTERS));
    }

    private static void freeze() {
        Rows.sentence("Promise 7: What begins ahead of a quarter is frozen: what it was.");
        Rows.run("least and greatest", "freeze(0) = 0", "freeze(96) = 0", "freeze(95) = 96", "freeze(1) = 95",
            "freeze(0) = 1", "freeze(0) = 0");
        Rows.run("it can be set back", "person(1)", "person(1)", "task(0, 10, 20, once)", "run() = 1", "freeze(96)",
            "freeze(10)", "absent(0, 0) = 1");
        Rows.sentence("Promise 7: IllegalArgumentException: it is not 0 .. 96.");
        Rows.refused(ARGUMENT, NEW, each("freeze(#)", NEVER_QUARTERS));
        Rows.refused(ARGUMENT, USED, each("freeze(#)", NEVER_QUARTERS));
    }

    private static void run() {
        Rows.sentence("Promise 8: Plans anew (nothing is kept): the cost");
        Rows.run("nothing to plan", "run() = 0", "cost() = 0");
        Rows.run("what is frozen is not kept", "person(1)", "person(1)", "task(0, 0, 10, once)", "run() = 1",
            "freeze(96)", "off(0, 0, 96)", "run() = 1", "plan 1");
        Rows.run("a kept empty ALWAYS does not hinder", "person(1)", "run() = 0", "task(0, 0, 10, always)",
            "freeze(96)", "absent(0, 90) = NONE", "run() = 1", "plan 0");
        Rows.run("changes do not count", "person(1)", "person(1)", "task(0, 0, 10, once)", "task(0, 20, 30, once)",
            "run() = 2", "absent(0, 90) = 0", "swap(0, 1) = 0", "run() = 2", "plan 0 1");
        Rows.run("full", Rows.rows(FOUR_PERSONS, Rows.times(6, "task(0, 10, 20, once)"), "run() = 204",
            "plan 0 1 2 3 NONE NONE"));
        Rows.sentence("Promise 8: NONE, if there is no such plan (the former one stays)");
        Rows.run("no person", "task(0, 0, 1, always)", "run() = NONE", "plan NONE", "cost() throws." + STATE);
        Rows.run("there is no former one", "person(1)", "task(0, 10, 20, once)", "task(0, 10, 20, always)",
            "task(0, 10, 20, always)", "run() = NONE", "plan NONE NONE NONE", "cost() throws." + STATE,
            "swap(0, 1) throws." + STATE, "absent(0, 0) throws." + STATE, "work(0) = 0", "fair() = 0");
        Rows.run("the former one", "person(1)", "person(1)", "task(0, 10, 20, always)", "task(0, 40, 50, once)",
            "run() = 2", "swap(0, 1) = 0", "off(0, 10, 11)", "off(1, 19, 20)", "run() = NONE", "plan 1 0", "cost() = 2",
            "work(1) = 10", "fair() = 0");
        Rows.run("former changes", Rows.rows(USED, "limit(0)", "run() = NONE", "count(3) = 1", "changed(0) = 1"));
    }

    private static void told() {
        Rows.sentence("Promise 9: the beginning of the first ALWAYS, by number, such that no plan, as it was "
            + "sought then, gives a person to it and to all ALWAYS with lower numbers (others may be "
            + "empty there)");
        Rows.run("the day's first quarter", "task(0, 0, 1, always)", "run() = NONE", "told() = 0");
        Rows.run("the day's last quarter", "task(0, 95, 96, always)", "run() = NONE", "told() = 95");
        Rows.run("by number, not by beginning", "task(0, 50, 60, always)", "task(0, 10, 20, always)", "run() = NONE",
            "told() = 50");
        Rows.run("the sixth", Rows.rows("person(1)", Rows.times(4, "task(1, 5, 6, once)"), "task(0, 10, 20, always)",
            "task(0, 19, 30, always)", "run() = NONE", "told() = 19"));
        Rows.run("it alone could have one", "person(1)", "task(0, 10, 20, always)", "task(0, 15, 25, always)",
            "task(0, 40, 50, always)", "run() = NONE", "told() = 15");
        Rows.run("others, no ALWAYS, may be empty", "person(1)", "task(0, 5, 95, once)", "task(1, 1, 2, once)",
            "task(0, 10, 20, always)", "task(1, 40, 50, always)", "run() = NONE", "told() = 40");
        Rows.run("those with higher numbers may be empty", "person(1)", "task(0, 10, 20, always)",
            "task(1, 30, 40, always)", "task(1, 50, 60, always)", "run() = NONE", "told() = 30");
        Rows.run("each two fit, not all three", "person(1)", "task(0, 0, 10, always)", "task(0, 20, 30, always)",
            "task(0, 40, 50, always)", "limit(20)", "run() = NONE", "told() = 40");
        Rows.run("run() keeps nothing then", "person(1)", "task(0, 10, 20, always)", "run() = 1",
            "task(0, 5, 6, always)", "task(1, 50, 60, always)", "freeze(96)", "run() = NONE", "told() = 50");
        Rows.run("as it was sought then", "person(1)", "task(0, 10, 20, always)", "task(0, 15, 25, always)",
            "run() = NONE", "person(1)", "off(0, 0, 96)", "limit(0)", "rest(96)", "freeze(96)", "task(0, 1, 2, always)",
            "told() = 15", "of(0) = NONE", "told() = 15");
        Rows.sentence("Promise 9: NONE, if there is none such, and else.");
        Rows.run("nothing was sought", "person(1)", "task(1, 10, 20, always)", "told() = NONE");
        Rows.run("the latest run() found one", "person(1)", "task(0, 10, 20, always)", "limit(9)", "run() = NONE",
            "told() = 10", "limit(10)", "told() = 10", "run() = 1", "told() = NONE", "limit(9)", "told() = NONE");
        Rows.run("a call that throws is not the latest", "person(1)", "task(0, 10, 20, always)", "limit(9)",
            "run() = NONE", "absent(0, 0) throws." + STATE, "absent(0, 96) throws." + ARGUMENT,
            "absent(1, 0) throws." + NO_SUCH, "told() = 10");
    }

    private static void toldOfAbsent() {
        Rows.sentence("Promise 9: If the latest run() or absent() answered NONE, of absent()");
        Rows.run("with the person off, who is not off then", "person(1)", "person(1)", "task(0, 10, 20, always)",
            "task(0, 15, 25, always)", "run() = 2", "absent(0, 0) = NONE", "told() = 15", "absent(0, 25) = 0",
            "told() = NONE", "absent(0, 19) = NONE", "told() = 15", "run() = 2", "told() = NONE");
        Rows.run("from the quarter", "person(1)", "task(0, 10, 20, always)", "task(0, 30, 40, always)", "run() = 4",
            "absent(0, 39) = NONE", "told() = 30", "absent(0, 20) = NONE", "told() = 30", "absent(0, 19) = NONE",
            "told() = 10");
        Rows.run("with what is kept", "person(1)", "person(1)", "task(0, 10, 20, always)", "task(0, 15, 25, always)",
            "run() = 2", "freeze(11)", "absent(0, 0) = 0", "absent(1, 0) = NONE", "told() = 15", "freeze(0)",
            "absent(1, 0) = NONE", "told() = 10");
        Rows.run("an ALWAYS is kept empty, another comes first", "person(1)", "task(0, 50, 60, always)", "run() = 1",
            "task(1, 70, 80, always)", "task(0, 5, 6, always)", "freeze(6)", "absent(0, 90) = NONE", "told() = 70");
        Rows.run("an ALWAYS is kept empty, others have persons", "person(1)", "task(0, 50, 60, always)", "run() = 1",
            "task(0, 5, 6, always)", "task(1, 70, 80, always)", "freeze(6)", "absent(0, 90) = NONE", "told() = 5");
        Rows.run("what is kept is not allowed: no plan at all", "person(1)", "task(0, 10, 20, once)",
            "task(0, 20, 30, once)", "task(0, 40, 50, always)", "run() = 9", "freeze(21)", "rest(1)",
            "absent(0, 90) = NONE", "told() = 40");
        Rows.run("and there is no ALWAYS: none such", "person(1)", "task(0, 10, 20, once)", "task(0, 20, 30, once)",
            "run() = 4", "freeze(21)", "rest(1)", "absent(0, 90) = NONE", "told() = NONE");
        Rows.run("and none of six tasks is one", Rows.rows("person(1)", SIX_IN_A_ROW, "run() = 36", "freeze(17)",
            "rest(1)", "absent(0, 90) = NONE", "told() = NONE"));
        Rows.run("the latest of both", "person(1)", "task(0, 10, 20, always)", "run() = 1", "absent(0, 0) = NONE",
            "told() = 10", "task(1, 40, 50, always)", "run() = NONE", "told() = 40", "absent(0, 0) = NONE",
            "told() = 10");
        Rows.run("the latest absent() found one", "person(1)", "task(0, 10, 20, always)", "run() = 1",
            "absent(0, 0) = NONE", "told() = 10", "absent(0, 20) = 0", "told() = NONE");
    }

    private static void of() {
        Rows.sentence("Promise 10: Who does a task by the plan; NONE.");
        Rows.run("ahead of a plan and with one", "person(2)", "person(1)", "task(0, 0, 8, once)", "task(2, 0, 8, once)",
            "of(0) = NONE", "of(1) = NONE", "run() = 101", "of(0) = 1", "of(1) = NONE");
        Rows.run("the last of six", Rows.rows(SIX_TASKS, "of(5) = NONE", "run() = 501", "of(5) = NONE",
            "swap(0, 5) = 0", "of(5) = 0"));
        Rows.sentence("Promise 10: NoSuchElementException.");
        Rows.refused(NO_SUCH, NEW, "of(0)", "of(-1)");
        Rows.refused(NO_SUCH, USED, "of(3)", "of(5)", "of(6)");
        Rows.refused(NO_SUCH, USED, each("of(#)", NEVER_A_NUMBER));
        Rows.refused(NO_SUCH, SIX_TASKS, "of(6)", "of(7)");
    }

    private static void costOfThePlan() {
        Rows.sentence("Promise 11: The plan's cost.");
        Rows.run("an empty plan", "run() = 0", "cost() = 0");
        Rows.run("behind swap() and absent()", "person(1)", "person(1)", "task(0, 0, 8, once)", "task(0, 8, 16, once)",
            "task(0, 16, 24, once)", "run() = 5", "cost() = 5", "swap(0, 2) = 0", "cost() = 5", "absent(1, 0) = 1",
            "cost() = 9", "absent(0, 0) = 3", "cost() = 300");
        Rows.run("a task made behind the plan has none", "person(1)", "run() = 0", "task(0, 0, 1, once)",
            "cost() = 100");
        Rows.run("a person made behind the plan has no task", "person(1)", "task(0, 0, 1, once)", "run() = 1",
            "person(1)", "cost() = 1");
        Rows.sentence("Promise 11: IllegalStateException: nothing was planned.");
        Rows.refused(STATE, NEW, "cost()");
        Rows.refused(STATE, SIX_TASKS, "cost()");
        Rows.run("a run() without a plan is no plan", "task(0, 0, 1, always)", "run() = NONE", "cost() throws." + STATE,
            "person(1)", "run() = 1", "cost() = 1");
    }

    private static void absent() {
        Rows.sentence("Promise 12: A person is off from a quarter up to the day's end (another span)");
        String[] one = {"person(1)", "task(0, 10, 20, once)", "run() = 1"};
        Rows.run("from its end", Rows.rows(one, "absent(0, 20) = 0", "plan 0", "count(2) = 1"));
        Rows.run("from its last quarter", Rows.rows(one, "absent(0, 19) = 1", "plan NONE", "count(2) = 1"));
        Rows.run("from its first quarter", Rows.rows(one, "absent(0, 10) = 1", "plan NONE"));
        Rows.run("from the day's first quarter", Rows.rows(one, "absent(0, 0) = 1", "plan NONE", "count(2) = 1",
            "run() = 100"));
        Rows.run("up to the day's end", "person(1)", "task(0, 95, 96, once)", "run() = 1", "absent(0, 95) = 1",
            "plan NONE", "run() = 100");
        Rows.run("not ahead of the quarter", "person(1)", "task(0, 94, 95, once)", "run() = 1", "absent(0, 95) = 0",
            "plan 0", "run() = 1");
        Rows.run("another span each time", Rows.rows(one, "absent(0, 5) = 1", "absent(0, 5) = 0", "absent(0, 50) = 0",
            "count(2) = 3"));
        Rows.run("as many as 20", Rows.rows(one, Rows.times(20, "absent(0, 20) = 0"), "count(2) = 20",
            "absent(0, 20) throws." + STATE));
        Rows.run("the last person alone", "person(1)", "person(1)", "person(1)", "person(1)", "task(0, 10, 20, once)",
            "task(0, 10, 20, once)", "task(0, 10, 20, once)", "task(0, 10, 20, once)", "run() = 4", "absent(3, 10) = 1",
            "plan 0 1 2 NONE");
        Rows.sentence("Promise 12: how many tasks have another person, or none");
        Rows.run("no task", "person(1)", "run() = 0", "absent(0, 0) = 0", "cost() = 0");
        Rows.run("all six", Rows.rows("person(1)", SIX_IN_A_ROW, "run() = 36", "absent(0, 0) = 6",
            "plan NONE NONE NONE NONE NONE NONE", "cost() = 600"));
        Rows.run("all six, others have them", Rows.rows("person(1)", SIX_IN_A_ROW, "run() = 36", "person(1)",
            "person(1)", "person(1)", "absent(0, 0) = 6", "plan 1 1 2 2 3 3", "cost() = 12"));
        Rows.run("one is off since the plan too", "person(1)", "person(1)", "person(1)", "task(0, 0, 10, once)",
            "task(0, 0, 10, once)", "run() = 2", "off(0, 0, 1)", "absent(2, 90) = 1", "plan 2 1");
    }

    private static void absentRefused() {
        Rows.sentence("Promise 12: NONE if there is no such plan (nothing changes, the person is not off)");
        Rows.run("the person is not off", "person(1)", "task(0, 10, 20, always)", "run() = 1", "absent(0, 19) = NONE",
            "plan 0", "count(2) = 0", "count(3) = 0", "run() = 1", "absent(0, 20) = 0", "count(2) = 1");
        Rows.run("former changes stay", "person(1)", "person(2)", "task(0, 10, 20, always)", "task(1, 10, 20, once)",
            "run() = 2", "absent(1, 0) = 1", "absent(0, 0) = NONE", "count(3) = 1", "changed(0) = 1", "count(2) = 1",
            "cost() = 101");
        Rows.run("the 20th span is still free", Rows.rows("person(1)", "task(0, 10, 20, always)", "run() = 1",
            Rows.times(19, "off(0, 0, 1)"), "absent(0, 0) = NONE", "count(2) = 19", "absent(0, 20) = 0",
            "count(2) = 20"));
        Rows.sentence("Promise 12: NoSuchElementException");
        Rows.refused(NO_SUCH, NEW, "absent(0, 0)");
        Rows.refused(NO_SUCH, USED, "absent(2, 0)", "absent(4, 0)");
        Rows.refused(NO_SUCH, USED, each("absent(#, 0)", NEVER_A_NUMBER));
        Rows.refused(NO_SUCH, Rows.rows(FOUR_PERSONS, "run() = 0"), "absent(4, 0)");
        Rows.sentence("Promise 12: IllegalArgumentException: the quarter.");
        Rows.refused(ARGUMENT, USED, "absent(0, 96)");
        Rows.refused(ARGUMENT, USED, each("absent(1, #)", NEVER_QUARTERS));
        Rows.sentence("Promise 12: IllegalStateException: nothing was planned, or there are 20 spans.");
        Rows.refused(STATE, FOUR_PERSONS, "absent(0, 0)", "absent(3, 95)");
        Rows.refused(STATE, TWENTY_SPANS, "absent(0, 0)");
        Rows.refused(STATE, Rows.rows(TWENTY_SPANS, "run() = 0"), "absent(0, 0)", "absent(0, 95)");
        Rows.refused(STATE, Rows.rows("person(1)", "task(1, 0, 1, always)", "run() = NONE"), "absent(0, 0)");
        Rows.sentence("Promise 12: NoSuchElementException, IllegalArgumentException, then IllegalStateException");
        Rows.refused(NO_SUCH, USED, "absent(2, 96)", "absent(-1, -1)");
        Rows.refused(NO_SUCH, FOUR_PERSONS, "absent(4, 0)", "absent(4, 96)");
        Rows.refused(ARGUMENT, FOUR_PERSONS, "absent(0, 96)", "absent(0, -1)");
        Rows.refused(NO_SUCH, Rows.rows(TWENTY_SPANS, "run() = 0"), "absent(1, 0)", "absent(1, 96)");
        Rows.refused(ARGUMENT, Rows.rows(TWENTY_SPANS, "run() = 0"), "absent(0, 96)", "absent(0, -1)");
    }

    private static void changed() {
        Rows.sentence("Promise 13: The k-th task, by numbers, that was changed by the latest absent() that found "
            + "a plan.");
        String[] two = {"person(1)", "person(1)", "person(2)", "task(0, 0, 10, once)", "task(1, 0, 10, once)",
            "task(0, 20, 30, once)", "task(0, 40, 50, once)", "run() = 6", "plan 0 2 0 1", "absent(0, 0) = 2"};
        Rows.run("by numbers", Rows.rows(two, "changed(0) = 0", "changed(1) = 2", "changed(2) throws." + NO_SUCH));
        Rows.run("behind run() and swap()", Rows.rows(two, "run() = 10", "swap(2, 3) = 0", "changed(0) = 0",
            "changed(1) = 2", "count(3) = 2"));
        Rows.run("one that found no plan is not the latest", Rows.rows(two, "task(0, 60, 70, always)", "run() = 17",
            "absent(1, 0) = NONE", "changed(0) = 0", "changed(1) = 2", "count(3) = 2"));
        Rows.run("behind one without changes", Rows.rows(two, "absent(0, 0) = 0", "changed(0) throws." + NO_SUCH,
            "count(3) = 0"));
        Rows.run("behind one with fewer", Rows.rows(two, "absent(2, 0) = 1", "changed(0) = 1",
            "changed(1) throws." + NO_SUCH, "count(3) = 1"));
        Rows.run("all six", Rows.rows("person(1)", SIX_IN_A_ROW, "run() = 36", "absent(0, 0) = 6", "changed(0) = 0",
            "changed(1) = 1", "changed(2) = 2", "changed(3) = 3", "changed(4) = 4", "changed(5) = 5",
            "changed(6) throws." + NO_SUCH, "changed(-1) throws." + NO_SUCH));
        Rows.sentence("Promise 13: NoSuchElementException: there is none.");
        Rows.refused(NO_SUCH, NEW, "changed(0)", "changed(-1)");
        Rows.refused(NO_SUCH, Rows.rows(SIX_TASKS, "run() = 501"), "changed(0)", "changed(5)");
        Rows.refused(NO_SUCH, two, each("changed(#)", NEVER_A_NUMBER));
        Rows.refused(NO_SUCH, USED, "changed(1)");
    }

    private static void swap() {
        Rows.sentence("Promise 14: Two tasks change over those who do them: 0");
        String[] both = {"person(1)", "person(1)", "task(0, 10, 20, always)", "task(0, 15, 25, once)", "run() = 2",
            "plan 0 1"};
        Rows.run("there and back", Rows.rows(both, "swap(0, 1) = 0", "plan 1 0", "swap(1, 0) = 0", "plan 0 1"));
        Rows.run("a task and itself", Rows.rows(both, "swap(0, 0) = 0", "swap(1, 1) = 0", "plan 0 1"));
        Rows.run("both are one person's", "person(1)", "task(0, 10, 20, always)", "task(0, 20, 30, always)",
            "run() = 4", "swap(0, 1) = 0", "plan 0 0", "cost() = 4");
        Rows.run("one has none", Rows.rows(both, "task(0, 40, 50, once)", "swap(1, 2) = 0", "plan 0 NONE 1",
            "swap(1, 2) = 0", "plan 0 1 NONE"));
        Rows.run("both have none", Rows.rows(both, "task(1, 40, 50, once)", "task(2, 40, 50, once)", "swap(2, 3) = 0",
            "swap(3, 3) = 0", "plan 0 1 NONE NONE"));
        Rows.run("the first and the sixth", "person(1)", "person(1)", "task(0, 10, 20, once)", "task(0, 10, 20, once)",
            "task(0, 10, 20, once)", "task(0, 10, 20, once)", "task(0, 10, 20, once)", "task(0, 10, 20, once)",
            "run() = 402", "swap(0, 5) = 0", "plan NONE 1 NONE NONE NONE 0", "swap(5, 1) = 0",
            "plan NONE 0 NONE NONE NONE 1");
        Rows.run("what was told and changed stays", Rows.rows(USED, "swap(0, 2) = 0", "told() = 10", "changed(0) = 1",
            "count(3) = 1", "plan 0 NONE 0"));
    }

    private static void swapRefused() {
        Rows.sentence("Promise 14: 1 one of them is frozen");
        String[] both = {"person(1)", "person(1)", "task(0, 10, 20, once)", "task(0, 15, 25, once)", "run() = 2"};
        Rows.run("either of them", Rows.rows(both, "freeze(11)", "swap(0, 1) = 1", "swap(1, 0) = 1", "swap(0, 0) = 1",
            "swap(1, 1) = 0", "plan 0 1", "freeze(16)", "swap(1, 1) = 1", "freeze(10)", "swap(0, 1) = 0", "plan 1 0"));
        Rows.run("the day's first quarter", "person(1)", "task(0, 0, 1, once)", "run() = 1", "swap(0, 0) = 0",
            "freeze(1)", "swap(0, 0) = 1");
        Rows.run("the day's last quarter", "person(1)", "task(0, 95, 96, once)", "run() = 1", "freeze(95)",
            "swap(0, 0) = 0", "freeze(96)", "swap(0, 0) = 1");

        Rows.sentence("Promise 14: 2 an ALWAYS would have none");
        Rows.run("either of them", "person(1)", "task(0, 10, 20, always)", "run() = 1", "task(0, 40, 50, once)",
            "swap(0, 1) = 2", "swap(1, 0) = 2", "plan 0 NONE");
        Rows.run("the ALWAYS had none", "person(1)", "task(0, 10, 20, once)", "run() = 1", "task(0, 40, 50, always)",
            "swap(1, 1) = 2", "swap(0, 1) = 0", "plan NONE 0");
        Rows.run("a third is an empty ALWAYS", Rows.rows(both, "task(0, 50, 60, always)", "swap(0, 1) = 0",
            "plan 1 0 NONE"));

        Rows.sentence("Promise 14: 3 one would be done by a person that does not suit it");
        Rows.run("by the skill", "person(1)", "person(3)", "task(0, 10, 20, once)", "task(1, 10, 20, once)",
            "run() = 2", "swap(0, 1) = 3", "swap(1, 0) = 3", "plan 0 1");
        Rows.run("off in its last quarter", Rows.rows(both, "off(0, 25, 26)", "swap(0, 1) = 0", "swap(0, 1) = 0",
            "off(0, 24, 25)", "swap(0, 1) = 3", "swap(1, 0) = 3", "plan 0 1"));
        Rows.run("off in its first quarter", Rows.rows(both, "off(1, 9, 10)", "swap(0, 1) = 0", "swap(0, 1) = 0",
            "off(1, 10, 11)", "swap(0, 1) = 3", "swap(1, 0) = 3", "plan 0 1"));
        Rows.run("one who is off has it and keeps it", Rows.rows(both, "off(0, 10, 11)", "swap(0, 0) = 3",
            "swap(1, 1) = 0"));
        Rows.run("one who is off gives it away", Rows.rows(both, "off(0, 10, 11)", "swap(0, 1) = 0", "plan 1 0"));

        Rows.sentence("Promise 14: 4 two tasks of one of the two persons would lie too near each other");
        String[] three = {"person(1)", "person(1)", "task(0, 0, 10, once)", "task(0, 10, 15, once)",
            "task(0, 12, 20, once)", "run() = 5", "plan 0 0 1"};
        Rows.run("by their times", Rows.rows(three, "swap(0, 2) = 4", "swap(2, 0) = 4", "plan 0 0 1", "swap(1, 2) = 0",
            "plan 0 1 0"));
        Rows.run("by the rest", Rows.rows(three, "rest(2)", "swap(1, 2) = 0", "plan 0 1 0", "rest(3)", "swap(0, 1) = 4",
            "swap(0, 0) = 4", "swap(1, 1) = 0"));
        Rows.run("a third person's tasks", "person(1)", "person(2)", "person(1)", "task(0, 0, 10, once)",
            "task(0, 0, 10, once)", "task(1, 20, 30, once)", "task(1, 30, 40, once)", "run() = 6", "plan 0 2 1 1",
            "rest(1)", "swap(0, 1) = 0", "plan 2 0 1 1");

        Rows.sentence("Promise 14: 5 one of the two persons would have too many quarters");
        Rows.run("just as many and one more", Rows.rows(three, "limit(18)", "swap(1, 2) = 0", "plan 0 1 0",
            "swap(1, 2) = 0", "limit(17)", "swap(1, 2) = 5", "swap(2, 1) = 5", "plan 0 0 1"));
        Rows.run("without a change", "person(1)", "task(0, 0, 10, once)", "run() = 1", "limit(10)", "swap(0, 0) = 0",
            "limit(9)", "swap(0, 0) = 5");
        Rows.run("a third person", "person(1)", "person(2)", "person(1)", "task(0, 0, 10, once)",
            "task(0, 0, 10, once)", "task(1, 20, 30, once)", "task(1, 30, 40, once)", "run() = 6", "limit(19)",
            "swap(0, 1) = 0", "plan 2 0 1 1");
    }

    private static void swapFirstThatHolds() {
        Rows.sentence("Promise 14: else the first of these that holds, and nothing changes");
        // 0 has tasks 0 and 2, 1 has task 1, none has task 3 and 4
        String[] five = {"person(1)", "person(3)", "task(0, 10, 20, always)", "task(1, 12, 30, once)",
            "task(0, 30, 40, once)", "run() = 5", "plan 0 1 0", "task(1, 50, 60, once)", "task(0, 35, 60, once)"};
        Rows.run("1 and 2", Rows.rows(five, "freeze(11)", "swap(0, 4) = 1", "swap(4, 0) = 1"));
        Rows.run("1 and 3", Rows.rows(five, "freeze(11)", "swap(0, 1) = 1", "swap(1, 0) = 1"));
        Rows.run("1 and 4", Rows.rows(five, "rest(10)", "swap(2, 2) = 0", "rest(11)", "swap(2, 2) = 4", "freeze(31)",
            "swap(2, 2) = 1"));
        Rows.run("1 and 5", Rows.rows(five, "limit(19)", "swap(2, 2) = 5", "freeze(31)", "swap(2, 2) = 1"));
        Rows.run("2 and 3", Rows.rows(five, "swap(0, 3) = 2", "swap(3, 0) = 2"));
        Rows.run("2 and 4", Rows.rows(five, "swap(0, 4) = 2", "swap(4, 0) = 2"));
        Rows.run("2 and 5", Rows.rows(five, "limit(0)", "swap(0, 4) = 2", "swap(4, 0) = 2"));
        Rows.run("3 and 4", Rows.rows(five, "rest(96)", "swap(0, 1) = 3", "swap(1, 0) = 3", "swap(2, 3) = 3"));
        Rows.run("3 and 5", Rows.rows(five, "limit(0)", "swap(0, 1) = 3", "swap(1, 0) = 3", "swap(2, 3) = 3"));
        Rows.run("4 and 5", "person(1)", "person(1)", "task(0, 0, 10, once)", "task(0, 15, 25, once)",
            "task(0, 8, 30, once)", "run() = 5", "plan 0 0 1", "swap(0, 2) = 4", "limit(20)", "swap(0, 2) = 4",
            "swap(2, 0) = 4", "off(0, 29, 30)", "swap(0, 2) = 3", "freeze(1)", "swap(0, 2) = 1");
        Rows.run("4 of one person, 5 of the other", "person(1)", "person(1)", "task(0, 0, 10, once)",
            "task(0, 12, 15, once)", "task(0, 2, 30, once)", "limit(28)", "run() = 5", "plan 0 0 1", "limit(9)",
            "swap(0, 2) = 4", "swap(2, 0) = 4");
    }

    private static void swapWrong() {
        Rows.sentence("Promise 14: NoSuchElementException");
        Rows.refused(NO_SUCH, NEW, "swap(0, 0)");
        Rows.refused(NO_SUCH, USED, "swap(0, 3)", "swap(3, 0)", "swap(3, 3)", "swap(0, 6)", "swap(6, 0)");
        Rows.refused(NO_SUCH, USED, each("swap(#, 0)", NEVER_A_NUMBER));
        Rows.refused(NO_SUCH, USED, each("swap(0, #)", NEVER_A_NUMBER));
        Rows.refused(NO_SUCH, Rows.rows(SIX_TASKS, "run() = 501"), "swap(0, 6)", "swap(6, 0)");
        Rows.sentence("Promise 14: IllegalStateException: nothing was planned.");
        Rows.refused(STATE, SIX_TASKS, "swap(0, 5)", "swap(0, 0)");
        Rows.refused(STATE, Rows.rows("task(0, 0, 1, always)", "run() = NONE"), "swap(0, 0)");
        Rows.refused(STATE, Rows.rows("task(0, 0, 1, once)", "freeze(96)"), "swap(0, 0)");
        Rows.sentence("Promise 14: NoSuchElementException, then IllegalStateException");
        Rows.refused(NO_SUCH, SIX_TASKS, "swap(0, 6)", "swap(6, 0)", "swap(-1, 0)", "swap(0, -1)");
        Rows.refused(NO_SUCH, Rows.rows(USED, "freeze(96)"), "swap(0, 3)", "swap(3, 0)");
    }

    private static void work() {
        Rows.sentence("Promise 15: How many quarters a person has by the plan.");
        Rows.run("no plan", Rows.rows(SIX_TASKS, "work(0) = 0"));
        Rows.run("none, one and the whole day", "person(1)", "person(2)", "person(4)", "task(0, 0, 96, once)",
            "task(1, 95, 96, once)", "run() = 2", "work(0) = 96", "work(1) = 1", "work(2) = 0");
        Rows.run("six tasks", Rows.rows("person(1)", SIX_IN_A_ROW, "run() = 36", "work(0) = 96", "absent(0, 95) = 1",
            "work(0) = 80"));
        Rows.run("by the plan, though he is off", "person(1)", "task(0, 10, 20, once)", "run() = 1", "off(0, 0, 96)",
            "limit(0)", "work(0) = 10");
        Rows.sentence("Promise 15: NoSuchElementException.");
        Rows.refused(NO_SUCH, NEW, "work(0)", "work(-1)");
        Rows.refused(NO_SUCH, USED, "work(2)", "work(3)", "work(4)");
        Rows.refused(NO_SUCH, USED, each("work(#)", NEVER_A_NUMBER));
        Rows.refused(NO_SUCH, FOUR_PERSONS, "work(4)");
    }

    private static void fair() {
        Rows.sentence("Promise 16: The difference between the most and the fewest tasks that a person has by the "
            + "plan; 0 without persons.");
        Rows.run("a new object", "fair() = 0");
        Rows.run("without persons", "task(0, 0, 1, once)", "task(0, 0, 1, once)", "run() = 200", "fair() = 0");
        Rows.run("no plan", "person(1)", "person(1)", "task(0, 0, 1, once)", "fair() = 0");
        Rows.run("one person", "person(1)", "task(0, 0, 1, once)", "task(0, 1, 2, once)", "run() = 4", "fair() = 0");
        Rows.run("six and none", Rows.rows("person(0)", "person(0)", "person(0)", "person(1)", SIX_IN_A_ROW,
            "run() = 36", "fair() = 6"));
        Rows.run("six and none, the first", Rows.rows("person(1)", SIX_IN_A_ROW, "run() = 36", "fair() = 0",
            "person(1)", "fair() = 6", "run() = 18", "fair() = 0"));
        Rows.run("all have some", "person(1)", "person(2)", "task(0, 0, 1, once)", "task(0, 1, 2, once)",
            "task(0, 2, 3, once)", "task(1, 0, 1, once)", "run() = 10", "fair() = 2");
    }

    private static void count() {
        Rows.sentence("Promise 17: 0 persons, 1 tasks, 2 spans off, 3 tasks that were changed by the latest "
            + "absent() that found a plan.");
        Rows.run("each has its own", "person(1)", "person(1)", "person(1)", "task(0, 0, 10, once)",
            "task(0, 20, 30, once)", "off(2, 0, 96)", "off(2, 0, 96)", "off(2, 0, 96)", "off(2, 0, 96)", "run() = 2",
            "absent(0, 0) = 1", "count(0) = 3", "count(1) = 2", "count(2) = 5", "count(3) = 1");
        Rows.run("full", Rows.rows("person(255)", "task(0, 0, 1, once)", "task(1, 1, 2, once)", "task(2, 2, 3, once)",
            "task(3, 3, 4, once)", "task(4, 4, 5, once)", "task(5, 5, 6, once)", "run() = 36",
            Rows.times(3, "person(0)"), Rows.times(19, "off(3, 0, 1)"), "absent(0, 0) = 6", "count(0) = 4",
            "count(1) = 6", "count(2) = 20", "count(3) = 6"));
        Rows.sentence("Promise 17: NoSuchElementException: none of these.");
        Rows.refused(NO_SUCH, NEW, "count(4)", "count(-1)", "count(5)");
        Rows.refused(NO_SUCH, USED, "count(4)", "count(5)", "count(6)");
        Rows.refused(NO_SUCH, USED, each("count(#)", NEVER_A_NUMBER));
    }
}
