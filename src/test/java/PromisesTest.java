/** Each promise of the document by ordinary inputs; BoundaryTest has the edges and the wrong inputs. */
public final class PromisesTest {
    /** Anna guides in two languages, Ben in one, Cleo guards; two tours, a watch in two parts, a late tour. */
    private static final String[] MUSEUM = {
        "person(3) = 0", "person(1) = 1", "person(4) = 2", "task(0, 36, 44, once) = 0", "task(1, 40, 48, once) = 1",
        "task(2, 32, 52, always) = 2", "task(2, 56, 72, always) = 3", "task(0, 60, 68, once) = 4"};
    private static final String[] PLANNED = Rows.rows(MUSEUM, "run() = 9", "plan 1 0 2 2 0");

    public static void main(String[] args) {
        newObject();
        personAndTask();
        off();
        rules();
        run();
        told();
        ofAndCost();
        absent();
        changed();
        swap();
        numbers();
        Rows.end();
    }

    private static void newObject() {
        Rows.sentence("Promise 1: A new object");
        Rows.run("it can be used at once", Rows.rows(PLANNED, "rest(4) = 0", "limit(40) = 96", "freeze(9) = 0"));
        Rows.run("it has nothing of another one", "count(0) = 0", "count(1) = 0", "count(2) = 0", "count(3) = 0",
            "cost() throws.IllegalStateException", "rest(0) = 0", "limit(96) = 96", "freeze(0) = 0");
    }

    private static void personAndTask() {
        Rows.sentence("Promises 2 and 4: person, task");
        Rows.run("each has a number", Rows.rows(MUSEUM, "count(0) = 3", "count(1) = 5", "person(8) = 3",
            "task(3, 0, 8, once) = 5"));
        Rows.run("skills are bits", "person(128)", "person(64)", "task(6, 0, 1, once)", "task(7, 0, 1, once)",
            "run() = 2", "plan 1 0");
        Rows.run("each skill of a set", "person(13)", "task(0, 0, 1, once)", "task(1, 1, 2, once)",
            "task(2, 2, 3, once)", "task(3, 3, 4, once)", "run() = 109", "plan 0 NONE 0 0");
        Rows.run("an ALWAYS goes ahead of another task", "person(1)", "task(0, 10, 20, once)",
            "task(0, 15, 25, always)", "run() = 101", "plan NONE 0");
    }

    private static void off() {
        Rows.sentence("Promise 3: off");
        Rows.run("Ben is off at noon", Rows.rows(MUSEUM, "off(1, 40, 50) = 1", "run() = 106", "plan 0 NONE 2 2 1",
            "count(2) = 1"));
        Rows.run("two are off", Rows.rows(MUSEUM, "off(1, 60, 64) = 1", "off(0, 66, 70) = 2", "run() = 106",
            "plan 1 0 2 2 NONE"));
    }

    private static void rules() {
        Rows.sentence("Promise 5: rest");
        Rows.run("Cleo rests between her watches", Rows.rows(MUSEUM, "rest(4) = 0", "run() = 9", "rest(5) = 4",
            "run() = NONE", "told() = 56"));
        Rows.run("a guide rests between two tours", "person(1)", "task(0, 20, 30, once)", "task(0, 40, 48, once)",
            "rest(10) = 0", "run() = 4", "rest(11) = 10", "run() = 101", "plan 0 NONE");
        Rows.sentence("Promise 6: limit");
        Rows.run("Cleo has both watches", Rows.rows(MUSEUM, "limit(36) = 96", "run() = 9", "limit(35) = 36",
            "run() = NONE", "told() = 56"));
        Rows.run("each has one tour", Rows.rows("person(3)", "person(1)", "task(0, 36, 44, once)",
            "task(1, 40, 48, once)", "task(0, 60, 68, once)", "limit(15)", "run() = 102", "plan 0 NONE 1"));
        Rows.sentence("Promise 7: freeze");
        Rows.run("a tour that has begun stays", Rows.rows(PLANNED, "freeze(40) = 0", "absent(1, 30) = 0",
            "plan 1 0 2 2 0"));
        Rows.run("one that has not changes", Rows.rows(PLANNED, "freeze(36) = 0", "absent(1, 30) = 1",
            "plan NONE 0 2 2 0", "cost() = 108"));
    }

    private static void run() {
        Rows.sentence("Promise 8: run");
        Rows.run("the least cost", Rows.rows("person(1)", "person(1)", "person(1)", "person(1)", "task(0, 0, 10, once)",
            "task(0, 10, 20, once)", "task(0, 20, 30, once)", "task(0, 30, 40, once)", "task(0, 40, 50, once)",
            "task(0, 50, 60, once)", "run() = 10", "plan 0 0 1 1 2 3"));
        Rows.run("who can do less is spared for it", "person(3)", "person(1)", "task(0, 0, 1, once)",
            "task(1, 2, 3, once)", "task(1, 4, 5, once)", "run() = 5", "plan 1 0 0");
        Rows.run("again, when something is new", Rows.rows(PLANNED, "person(5) = 3", "run() = 7", "plan 1 0 2 2 3"));
        Rows.run("no plan", Rows.rows(PLANNED, "task(2, 50, 58, always)", "run() = NONE", "plan 1 0 2 2 0 NONE",
            "cost() = 109"));
    }

    private static void told() {
        Rows.sentence("Promise 9: told");
        Rows.run("the second watch", Rows.rows(MUSEUM, "off(2, 60, 61)", "run() = NONE", "told() = 56"));
        Rows.run("the first watch", Rows.rows(MUSEUM, "off(2, 60, 61)", "off(2, 32, 33)", "run() = NONE",
            "told() = 32"));
        Rows.run("of an absence", Rows.rows(PLANNED, "absent(2, 53) = NONE", "told() = 56", "absent(2, 40) = NONE",
            "told() = 32", "absent(2, 72) = 0", "told() = NONE"));
    }

    private static void ofAndCost() {
        Rows.sentence("Promises 10 and 11: of, cost");
        Rows.run("by the plan", Rows.rows(MUSEUM, "of(0) = NONE", "run() = 9", "of(0) = 1", "of(1) = 0", "of(2) = 2",
            "of(3) = 2", "of(4) = 0", "cost() = 9"));
        Rows.run("with an empty task", Rows.rows(PLANNED, "task(5, 0, 8, once) = 5", "run() = 109", "of(5) = NONE",
            "cost() = 109"));
    }

    private static void absent() {
        Rows.sentence("Promise 12: absent");
        Rows.run("another takes the tour", Rows.rows(PLANNED, "absent(0, 60) = 1", "plan 1 0 2 2 1", "cost() = 9",
            "count(2) = 1"));
        Rows.run("then he is absent too", Rows.rows(PLANNED, "absent(0, 60) = 1", "absent(1, 0) = 2",
            "plan NONE 0 2 2 NONE", "cost() = 205"));
        Rows.run("nobody can take the watch", Rows.rows(PLANNED, "absent(2, 0) = NONE", "plan 1 0 2 2 0", "cost() = 9",
            "count(2) = 0"));
        Rows.run("an ALWAYS takes one from another task", "person(1)", "person(3)", "task(0, 0, 10, always)",
            "task(1, 0, 10, once)", "run() = 2", "absent(0, 0) = 2", "plan 1 NONE");
    }

    private static void changed() {
        Rows.sentence("Promise 13: changed");
        Rows.run("what each absence changed", Rows.rows(PLANNED, "absent(0, 60) = 1", "changed(0) = 4",
            "absent(1, 0) = 2", "changed(0) = 0", "changed(1) = 4", "changed(2) throws.NoSuchElementException",
            "count(3) = 2"));
    }

    private static void swap() {
        Rows.sentence("Promise 14: swap");
        Rows.run("two guides", "person(1)", "person(1)", "task(0, 10, 20, once)", "task(0, 30, 44, once)", "run() = 2",
            "plan 0 1", "work(0) = 10", "swap(0, 1) = 0", "plan 1 0", "work(0) = 14", "work(1) = 10");
        Rows.run("Anna takes another tour", Rows.rows(PLANNED, "task(0, 80, 90, once) = 5", "swap(4, 5) = 0",
            "plan 1 0 2 2 NONE 0"));
        Rows.run("each refusal", Rows.rows(PLANNED, "task(2, 80, 90, once) = 5", "swap(3, 5) = 2", "swap(0, 1) = 3",
            "swap(0, 4) = 4", "freeze(37)", "swap(0, 4) = 1", "plan 1 0 2 2 0 NONE"));
        Rows.run("too many quarters", "person(1)", "person(1)", "task(0, 0, 20, once)", "task(0, 30, 34, once)",
            "task(0, 40, 50, once)", "run() = 5", "plan 0 0 1", "limit(24)", "swap(1, 2) = 5", "limit(30)",
            "swap(1, 2) = 0", "plan 0 1 0");
    }

    private static void numbers() {
        Rows.sentence("Promises 15, 16 and 17: work, fair, count");
        Rows.run("by the plan", Rows.rows(MUSEUM, "work(2) = 0", "fair() = 0", "run() = 9", "work(0) = 16",
            "work(1) = 8", "work(2) = 36", "fair() = 1"));
        Rows.run("behind an absence", Rows.rows(PLANNED, "absent(1, 0) = 1", "work(1) = 0", "fair() = 2",
            "count(0) = 3", "count(1) = 5", "count(2) = 1", "count(3) = 1"));
    }
}
