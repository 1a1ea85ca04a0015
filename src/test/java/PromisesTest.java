import java.util.ArrayList;
import java.util.List;
import java.util.NoSuchElementException;
import java.util.function.IntSupplier;

/** Each promise of the document by ordinary inputs, named edges and wrong inputs. */
public final class PromisesTest {
    private static final int NONE = GuidePlans.NONE;
    private static final int[] WILD = {Integer.MIN_VALUE, -1, Integer.MAX_VALUE};
    private static int wrong = 0;
    private static String promise = "";

    public static void main(String[] args) {
        promise1NewObject();
        promise2Person();
        promise3Off();
        promise4Task();
        promise5Rest();
        promise6Limit();
        promise7Freeze();
        promise8RunChoosesLeastCost();
        promise8RunBreaksTies();
        promise8RunKeepsRules();
        promise8RunWithoutPlan();
        promise9Told();
        promise9ToldOfAbsent();
        promise10Of();
        promise11Cost();
        promise12AbsentFewestChanges();
        promise12AbsentThenCostThenOrder();
        promise12AbsentKeepsFrozen();
        promise12AbsentWithoutPlan();
        promise12AbsentWrong();
        promise13Changed();
        promise14Swap();
        promise14SwapRefusals();
        promise14SwapOrderOfRefusals();
        promise14SwapWrong();
        promise15Work();
        promise16Fair();
        promise17Count();
        System.out.println(wrong == 0 ? "all promises hold" : wrong + " checks are wrong");
        if (wrong != 0) {
            System.exit(1);
        }
    }

    // what the checks are made of

    private static void is(String call, int want, int got) {
        if (want != got) {
            wrong++;
            System.out.println(promise + ": " + call + " answered " + got + ", due is " + want);
        }
    }

    private static String outcome(IntSupplier call) {
        try {
            return String.valueOf(call.getAsInt());
        } catch (RuntimeException e) {
            return e.getClass().getName();
        }
    }

    /** The call throws exactly this exception, and the object answers all as ahead of it. */
    private static void refuses(GuidePlans x, Class<?> want, String call, IntSupplier it) {
        String ahead = everything(x);
        String got = outcome(it);
        if (!got.equals(want.getName())) {
            wrong++;
            System.out.println(promise + ": " + call + " ended with " + got + ", due is " + want.getName());
        }
        unchanged(x, call, ahead);
    }

    private static void unchanged(GuidePlans x, String call, String ahead) {
        String behind = everything(x);
        if (!ahead.equals(behind)) {
            wrong++;
            System.out.println(promise + ": " + call + " changed " + ahead + " to " + behind);
        }
    }

    private static void plan(GuidePlans x, int... doers) {
        for (int t = 0; t < doers.length; t++) {
            is("of(" + t + ")", doers[t], x.of(t));
        }
    }

    /** All that can be asked of an object. */
    private static String everything(GuidePlans x) {
        List<String> all = new ArrayList<>();
        for (int what = 0; what < 4; what++) {
            all.add("count" + x.count(what));
        }
        for (int t = 0; t < x.count(1); t++) {
            all.add("of" + x.of(t));
        }
        for (int p = 0; p < x.count(0); p++) {
            all.add("work" + x.work(p));
        }
        for (int k = 0; k < x.count(3); k++) {
            all.add("changed" + x.changed(k));
        }
        all.add("cost" + outcome(x::cost));
        all.add("told" + x.told());
        all.add("fair" + x.fair());
        int rest = x.rest(0);
        int limit = x.limit(0);
        int frozen = x.freeze(0);
        x.rest(rest);
        x.limit(limit);
        x.freeze(frozen);
        all.add("rules" + rest + "," + limit + "," + frozen);
        return String.join(" ", all);
    }

    private static GuidePlans withPersons(int... skills) {
        GuidePlans x = new GuidePlans();
        for (int s : skills) {
            x.person(s);
        }
        return x;
    }

    // the promises

    private static void promise1NewObject() {
        promise = "1 a new object";
        GuidePlans x = new GuidePlans();
        is("NONE", -1, GuidePlans.NONE);
        for (int what = 0; what < 4; what++) {
            is("count(" + what + ")", 0, x.count(what));
        }
        is("told()", NONE, x.told());
        is("fair()", 0, x.fair());
        refuses(x, IllegalStateException.class, "cost()", x::cost);
        refuses(x, NoSuchElementException.class, "of(0)", () -> x.of(0));
        refuses(x, NoSuchElementException.class, "work(0)", () -> x.work(0));
        refuses(x, NoSuchElementException.class, "changed(0)", () -> x.changed(0));
        is("rest(0)", 0, x.rest(0));
        is("limit(96)", 96, x.limit(96));
        is("freeze(0)", 0, x.freeze(0));
        GuidePlans other = withPersons(1);
        is("count(0) of another object", 0, x.count(0));
        is("count(0)", 1, other.count(0));
    }

    private static void promise2Person() {
        promise = "2 person";
        GuidePlans x = new GuidePlans();
        refuses(x, IllegalArgumentException.class, "person(256)", () -> x.person(256));
        for (int wild : WILD) {
            refuses(x, IllegalArgumentException.class, "person(" + wild + ")", () -> x.person(wild));
        }
        is("person(0)", 0, x.person(0));
        is("person(255)", 1, x.person(255));
        is("person(128)", 2, x.person(128));
        is("person(1)", 3, x.person(1));
        refuses(x, IllegalStateException.class, "person(1), the fifth", () -> x.person(1));
        refuses(x, IllegalArgumentException.class, "person(256), the fifth", () -> x.person(256));
        refuses(x, IllegalArgumentException.class, "person(-1), the fifth", () -> x.person(-1));
        for (int skill = 0; skill < 6; skill++) {
            x.task(skill, skill, skill + 1, false);
        }
        is("run()", 26, x.run());
        plan(x, 3, 1, 1, 1, 1, 1);
        GuidePlans y = withPersons(128, 64);
        y.task(6, 0, 1, false);
        y.task(7, 0, 1, false);
        is("run()", 2, y.run());
        plan(y, 1, 0);
    }

    private static void promise3Off() {
        promise = "3 off";
        GuidePlans x = withPersons(1);
        int[][] spans = {{5, 5}, {6, 5}, {-1, 5}, {0, 97}, {96, 96}, {96, 97}, {0, 0},
            {Integer.MIN_VALUE, Integer.MAX_VALUE}, {Integer.MAX_VALUE, Integer.MIN_VALUE}};
        for (int[] s : spans) {
            refuses(x, IllegalArgumentException.class, "off(0, " + s[0] + ", " + s[1] + ")", () -> x.off(0, s[0], s[1]));
        }
        for (int wild : WILD) {
            refuses(x, NoSuchElementException.class, "off(" + wild + ", 0, 1)", () -> x.off(wild, 0, 1));
        }
        refuses(x, NoSuchElementException.class, "off(1, 5, 5)", () -> x.off(1, 5, 5));
        is("off(0, 10, 20)", 1, x.off(0, 10, 20));
        is("off(0, 10, 20) again", 2, x.off(0, 10, 20));
        x.task(0, 9, 10, false);
        x.task(0, 9, 11, false);
        x.task(0, 19, 20, false);
        x.task(0, 20, 21, false);
        x.task(0, 12, 14, false);
        x.task(0, 8, 30, false);
        is("run()", 404, x.run());
        plan(x, 0, NONE, NONE, 0, NONE, NONE);
        is("off(0, 0, 96)", 3, x.off(0, 0, 96));
        plan(x, 0, NONE, NONE, 0, NONE, NONE);
        is("run()", 600, x.run());
        for (int n = 4; n <= 20; n++) {
            is("off(0, 95, 96)", n, x.off(0, 95, 96));
        }
        refuses(x, IllegalStateException.class, "off(0, 0, 1), the 21st", () -> x.off(0, 0, 1));
        refuses(x, IllegalArgumentException.class, "off(0, 1, 1), the 21st", () -> x.off(0, 1, 1));
        refuses(x, NoSuchElementException.class, "off(1, 1, 1), the 21st", () -> x.off(1, 1, 1));
        GuidePlans y = withPersons(1, 1);
        y.off(0, 0, 96);
        y.task(0, 0, 96, false);
        y.run();
        plan(y, 1);
    }

    private static void promise4Task() {
        promise = "4 task";
        GuidePlans x = withPersons(1);
        int[][] spans = {{5, 5}, {6, 5}, {-1, 5}, {0, 97}, {96, 96}, {96, 97},
            {Integer.MIN_VALUE, Integer.MAX_VALUE}};
        for (int[] s : spans) {
            refuses(x, IllegalArgumentException.class, "task(0, " + s[0] + ", " + s[1] + ")",
                () -> x.task(0, s[0], s[1], true));
        }
        refuses(x, NoSuchElementException.class, "task(8, 0, 1)", () -> x.task(8, 0, 1, true));
        refuses(x, NoSuchElementException.class, "task(8, 1, 1)", () -> x.task(8, 1, 1, true));
        for (int wild : WILD) {
            refuses(x, NoSuchElementException.class, "task(" + wild + ", 0, 1)", () -> x.task(wild, 0, 1, false));
        }
        is("task", 0, x.task(0, 0, 96, false));
        is("run()", 1, x.run());
        is("task", 1, x.task(7, 95, 96, true));
        plan(x, 0, NONE);
        for (int t = 2; t < 6; t++) {
            is("task", t, x.task(0, 0, 1, false));
        }
        refuses(x, IllegalStateException.class, "task, the seventh", () -> x.task(0, 0, 1, false));
        refuses(x, IllegalArgumentException.class, "task, the seventh", () -> x.task(0, 1, 1, false));
        refuses(x, NoSuchElementException.class, "task, the seventh", () -> x.task(8, 1, 1, false));
        is("count(1)", 6, x.count(1));
    }

    private static void promise5Rest() {
        promise = "5 rest";
        GuidePlans x = withPersons(1);
        x.task(0, 20, 30, false);
        x.task(0, 10, 15, false);
        refuses(x, IllegalArgumentException.class, "rest(97)", () -> x.rest(97));
        for (int wild : WILD) {
            refuses(x, IllegalArgumentException.class, "rest(" + wild + ")", () -> x.rest(wild));
        }
        is("rest(5)", 0, x.rest(5));
        is("run()", 4, x.run());
        is("rest(6)", 5, x.rest(6));
        plan(x, 0, 0);
        is("run()", 101, x.run());
        plan(x, 0, NONE);
        is("rest(96)", 6, x.rest(96));
        is("run()", 101, x.run());
        is("rest(0)", 96, x.rest(0));
        is("run()", 4, x.run());
    }

    private static void promise6Limit() {
        promise = "6 limit";
        GuidePlans x = withPersons(1);
        x.task(0, 20, 30, false);
        x.task(0, 10, 15, false);
        refuses(x, IllegalArgumentException.class, "limit(97)", () -> x.limit(97));
        for (int wild : WILD) {
            refuses(x, IllegalArgumentException.class, "limit(" + wild + ")", () -> x.limit(wild));
        }
        is("limit(15)", 96, x.limit(15));
        is("run()", 4, x.run());
        is("limit(14)", 15, x.limit(14));
        plan(x, 0, 0);
        is("run()", 101, x.run());
        plan(x, 0, NONE);
        is("limit(9)", 14, x.limit(9));
        is("run()", 101, x.run());
        plan(x, NONE, 0);
        is("limit(0)", 9, x.limit(0));
        is("run()", 200, x.run());
        is("limit(96)", 0, x.limit(96));
        is("run()", 4, x.run());
        GuidePlans y = withPersons(1);
        y.task(0, 0, 96, true);
        is("run()", 1, y.run());
        GuidePlans z = withPersons(1);
        z.task(0, 0, 10, false);
        z.task(0, 20, 30, true);
        z.limit(10);
        is("run(), the hours are for the ALWAYS", 101, z.run());
        plan(z, NONE, 0);
    }

    private static void promise7Freeze() {
        promise = "7 freeze";
        GuidePlans x = withPersons(1, 1);
        x.task(0, 10, 15, false);
        refuses(x, IllegalArgumentException.class, "freeze(97)", () -> x.freeze(97));
        for (int wild : WILD) {
            refuses(x, IllegalArgumentException.class, "freeze(" + wild + ")", () -> x.freeze(wild));
        }
        is("run()", 1, x.run());
        is("freeze(96)", 0, x.freeze(96));
        is("freeze(11)", 96, x.freeze(11));
        is("swap(0, 0)", 1, x.swap(0, 0));
        is("absent(0, 0)", 0, x.absent(0, 0));
        plan(x, 0);
        is("freeze(10)", 11, x.freeze(10));
        is("swap(0, 0)", 3, x.swap(0, 0));
        is("absent(0, 0)", 1, x.absent(0, 0));
        plan(x, 1);
        is("freeze(0)", 10, x.freeze(0));
    }

    private static void promise8RunChoosesLeastCost() {
        promise = "8 run, least cost";
        GuidePlans x = withPersons(1, 1, 1, 1);
        is("run() without tasks", 0, x.run());
        for (int t = 0; t < 6; t++) {
            x.task(0, 10 * t, 10 * t + 10, false);
        }
        is("run()", 10, x.run());
        plan(x, 0, 0, 1, 1, 2, 3);
        GuidePlans y = withPersons(3, 1);
        y.task(0, 0, 1, false);
        y.task(1, 2, 3, false);
        y.task(1, 4, 5, false);
        is("run()", 5, y.run());
        plan(y, 1, 0, 0);
        GuidePlans alone = new GuidePlans();
        alone.task(0, 0, 1, false);
        is("run() without persons", 100, alone.run());
        plan(alone, NONE);
        GuidePlans filled = withPersons(1);
        for (int t = 0; t < 6; t++) {
            filled.task(0, t, t + 1, false);
        }
        is("run(), one does six", 36, filled.run());
    }

    private static void promise8RunBreaksTies() {
        promise = "8 run, equal costs";
        GuidePlans x = withPersons(1, 1);
        x.task(0, 0, 8, false);
        x.task(0, 8, 16, false);
        x.task(0, 16, 24, false);
        is("run()", 5, x.run());
        plan(x, 0, 0, 1);
        GuidePlans y = withPersons(1);
        y.task(0, 0, 8, false);
        y.task(0, 4, 12, false);
        is("run(), a person is below none", 101, y.run());
        plan(y, 0, NONE);
    }

    private static void promise8RunKeepsRules() {
        promise = "8 run, nothing is kept";
        GuidePlans x = withPersons(1, 1);
        x.task(0, 10, 20, false);
        x.run();
        x.freeze(96);
        x.off(0, 0, 96);
        is("run()", 1, x.run());
        plan(x, 1);
        GuidePlans y = withPersons(1);
        y.task(0, 0, 10, false);
        y.task(0, 5, 15, true);
        is("run(), the ALWAYS goes first", 101, y.run());
        plan(y, NONE, 0);
    }

    private static void promise8RunWithoutPlan() {
        promise = "8 run, no plan";
        GuidePlans x = withPersons(1);
        x.task(0, 10, 20, true);
        x.limit(9);
        is("run()", NONE, x.run());
        refuses(x, IllegalStateException.class, "cost() behind a run() of NONE", x::cost);
        plan(x, NONE);
        x.limit(10);
        is("run()", 1, x.run());
        x.task(0, 15, 25, true);
        is("run()", NONE, x.run());
        plan(x, 0, NONE);
        is("cost() of the former plan", 101, x.cost());
    }

    private static void promise9Told() {
        promise = "9 told";
        GuidePlans x = withPersons(1);
        x.task(0, 30, 40, false);
        x.task(0, 10, 20, true);
        x.task(1, 12, 20, false);
        x.task(0, 15, 25, true);
        x.task(1, 50, 60, true);
        is("run()", NONE, x.run());
        is("told()", 15, x.told());
        x.person(1);
        x.person(2);
        is("told() is of the run then", 15, x.told());
        is("run()", 9, x.run());
        is("told()", NONE, x.told());
        x.off(2, 50, 51);
        is("told()", NONE, x.told());
        is("run()", NONE, x.run());
        is("told()", 50, x.told());
        refuses(x, NoSuchElementException.class, "absent(9, 0)", () -> x.absent(9, 0));
        is("told() behind a call that throws", 50, x.told());
        GuidePlans both = withPersons(1, 2);
        both.task(0, 0, 10, true);
        both.task(0, 5, 15, true);
        both.task(1, 20, 30, true);
        both.off(1, 20, 21);
        is("run()", NONE, both.run());
        is("told(), the first by number", 5, both.told());
        GuidePlans frozen = withPersons(1);
        frozen.task(0, 10, 20, true);
        frozen.run();
        frozen.task(0, 5, 6, true);
        frozen.task(1, 50, 60, true);
        frozen.freeze(96);
        is("run()", NONE, frozen.run());
        is("told(), run() keeps nothing", 50, frozen.told());
        GuidePlans none = withPersons(1);
        none.task(1, 7, 9, true);
        is("run()", NONE, none.run());
        is("told()", 7, none.told());
    }

    private static void promise9ToldOfAbsent() {
        promise = "9 told of absent";
        GuidePlans x = withPersons(1, 1);
        x.task(0, 10, 20, true);
        x.task(0, 15, 25, true);
        x.run();
        is("absent(0, 0)", NONE, x.absent(0, 0));
        is("told()", 15, x.told());
        is("absent(0, 15)", NONE, x.absent(0, 15));
        is("told()", 15, x.told());
        is("absent(0, 25)", 0, x.absent(0, 25));
        is("told()", NONE, x.told());
        x.freeze(11);
        is("absent(1, 0) with the first kept", NONE, x.absent(1, 0));
        is("told()", 15, x.told());

        GuidePlans bare = withPersons(1);
        bare.task(0, 10, 20, false);
        bare.task(0, 20, 30, false);
        bare.run();
        bare.freeze(96);
        bare.rest(1);
        is("absent(0, 0), what is kept lies too near", NONE, bare.absent(0, 0));
        is("told() without an ALWAYS", NONE, bare.told());
        bare.freeze(0);
        bare.task(0, 40, 50, true);
        bare.run();
        bare.freeze(21);
        bare.limit(5);
        is("absent(0, 95), what is kept is too long", NONE, bare.absent(0, 95));
        is("told(), no plan at all", 40, bare.told());

        GuidePlans empty = withPersons(1, 1);
        empty.task(0, 50, 60, true);
        empty.run();
        empty.task(0, 5, 6, true);
        empty.task(1, 70, 80, true);
        empty.freeze(6);
        is("absent(0, 90), an ALWAYS is kept empty", NONE, empty.absent(0, 90));
        is("told()", 5, empty.told());
    }

    private static void promise10Of() {
        promise = "10 of";
        GuidePlans x = withPersons(2, 1);
        x.task(0, 0, 8, false);
        x.task(2, 0, 8, false);
        plan(x, NONE, NONE);
        x.run();
        plan(x, 1, NONE);
        refuses(x, NoSuchElementException.class, "of(2)", () -> x.of(2));
        for (int wild : WILD) {
            refuses(x, NoSuchElementException.class, "of(" + wild + ")", () -> x.of(wild));
        }
    }

    private static void promise11Cost() {
        promise = "11 cost";
        GuidePlans x = withPersons(1, 1);
        x.task(0, 0, 8, false);
        x.task(0, 8, 16, false);
        x.task(0, 16, 24, false);
        refuses(x, IllegalStateException.class, "cost()", x::cost);
        x.run();
        is("cost()", 5, x.cost());
        x.task(0, 24, 32, false);
        is("cost() with a task that none has", 105, x.cost());
        is("swap(0, 3)", 0, x.swap(0, 3));
        is("cost()", 105, x.cost());
        x.absent(1, 0);
        is("cost()", 109, x.cost());
    }

    private static void promise12AbsentFewestChanges() {
        promise = "12 absent, fewest changes";
        GuidePlans x = withPersons(1, 1, 1);
        x.task(0, 0, 10, false);
        x.task(0, 20, 30, false);
        x.task(0, 40, 50, false);
        x.run();
        plan(x, 0, 1, 2);
        is("absent(1, 30)", 0, x.absent(1, 30));
        is("absent(1, 29)", 1, x.absent(1, 29));
        plan(x, 0, 0, 2);
        is("count(2)", 2, x.count(2));
        is("absent(0, 0), one has all", 2, x.absent(0, 0));
        plan(x, 1, 2, 2);
        is("run()", 5, x.run());
        GuidePlans y = withPersons(1, 1);
        y.task(0, 0, 10, false);
        y.task(0, 5, 15, false);
        y.run();
        y.person(1);
        y.task(0, 40, 50, false);
        is("absent(2, 90), a change is dearer than an empty task", 0, y.absent(2, 90));
        plan(y, 0, 1, NONE);
        y.off(0, 5, 6);
        is("absent(2, 90), off() makes a change needed", 1, y.absent(2, 90));
        plan(y, 2, 1, NONE);
        GuidePlans chain = withPersons(1, 3);
        chain.task(0, 0, 10, true);
        chain.task(1, 0, 10, false);
        chain.run();
        plan(chain, 0, 1);
        is("absent(0, 0), the ALWAYS takes from another", 2, chain.absent(0, 0));
        plan(chain, 1, NONE);
        is("cost()", 101, chain.cost());
    }

    private static void promise12AbsentThenCostThenOrder() {
        promise = "12 absent, cost and order";
        GuidePlans x = withPersons(1, 1, 1);
        x.task(0, 0, 10, false);
        x.task(0, 0, 10, false);
        x.task(0, 20, 30, false);
        x.task(0, 20, 30, false);
        x.task(0, 40, 50, false);
        is("run()", 9, x.run());
        plan(x, 0, 1, 0, 1, 2);
        is("absent(0, 20)", 1, x.absent(0, 20));
        plan(x, 0, 1, 2, 1, 2);
        is("absent(2, 40), 0 is off and 1 remains", 1, x.absent(2, 40));
        plan(x, 0, 1, 2, 1, 1);
        GuidePlans cheaper = withPersons(1, 1, 1);
        for (int t = 0; t < 4; t++) {
            cheaper.task(0, 10 * t, 10 * t + 5, false);
        }
        is("run()", 6, cheaper.run());
        plan(cheaper, 0, 0, 1, 2);
        is("absent(1, 0), the cost goes ahead of the order", 1, cheaper.absent(1, 0));
        plan(cheaper, 0, 0, 2, 2);
        GuidePlans order = withPersons(1, 1, 1);
        order.task(0, 0, 10, false);
        order.run();
        is("absent(0, 0)", 1, order.absent(0, 0));
        plan(order, 1);
        GuidePlans emptied = withPersons(1, 1);
        emptied.task(0, 0, 10, false);
        emptied.task(0, 5, 15, false);
        emptied.task(0, 20, 30, false);
        emptied.run();
        plan(emptied, 0, 1, 0);
        is("absent(0, 0)", 2, emptied.absent(0, 0));
        plan(emptied, NONE, 1, 1);
    }

    private static void promise12AbsentKeepsFrozen() {
        promise = "12 absent, frozen tasks";
        GuidePlans x = withPersons(1, 1);
        x.task(0, 0, 10, true);
        x.task(0, 20, 30, false);
        x.run();
        plan(x, 0, 1);
        x.freeze(1);
        is("absent(0, 0), what is kept need not suit", 0, x.absent(0, 0));
        is("absent(1, 0), 0 is off too", 1, x.absent(1, 0));
        plan(x, 0, NONE);
        GuidePlans y = withPersons(1, 1);
        y.task(0, 10, 20, false);
        y.task(0, 22, 30, false);
        y.task(0, 40, 50, false);
        y.run();
        plan(y, 0, 0, 1);
        y.freeze(11);
        y.rest(3);
        is("absent(1, 90), the kept task forces the other off", 1, y.absent(1, 90));
        plan(y, 0, 1, 1);
        y.freeze(41);
        y.limit(17);
        is("absent(1, 90), kept sets have to be allowed", NONE, y.absent(1, 90));
        plan(y, 0, 1, 1);
        y.limit(18);
        is("absent(1, 90)", 0, y.absent(1, 90));
        y.rest(11);
        is("absent(1, 90), kept tasks too near", NONE, y.absent(1, 90));
    }

    private static void promise12AbsentWithoutPlan() {
        promise = "12 absent, no plan";
        GuidePlans x = withPersons(1, 2);
        x.task(0, 10, 20, true);
        x.task(1, 10, 20, false);
        x.run();
        is("absent(1, 0)", 1, x.absent(1, 0));
        is("absent(0, 19)", NONE, x.absent(0, 19));
        plan(x, 0, NONE);
        is("count(2)", 1, x.count(2));
        is("count(3)", 1, x.count(3));
        is("changed(0)", 1, x.changed(0));
        is("run(), the person is not off", 101, x.run());
        is("absent(0, 20)", 0, x.absent(0, 20));
        is("count(2)", 2, x.count(2));
    }

    private static void promise12AbsentWrong() {
        promise = "12 absent, wrong inputs";
        GuidePlans x = withPersons(1);
        refuses(x, IllegalStateException.class, "absent(0, 0)", () -> x.absent(0, 0));
        refuses(x, IllegalArgumentException.class, "absent(0, 96)", () -> x.absent(0, 96));
        refuses(x, NoSuchElementException.class, "absent(1, 96)", () -> x.absent(1, 96));
        x.task(0, 95, 96, false);
        x.run();
        for (int wild : WILD) {
            refuses(x, NoSuchElementException.class, "absent(" + wild + ", 0)", () -> x.absent(wild, 0));
            refuses(x, IllegalArgumentException.class, "absent(0, " + wild + ")", () -> x.absent(0, wild));
        }
        refuses(x, IllegalArgumentException.class, "absent(0, 96)", () -> x.absent(0, 96));
        for (int n = 1; n < 20; n++) {
            x.off(0, 0, 1);
        }
        is("absent(0, 95), the 20th span", 1, x.absent(0, 95));
        refuses(x, IllegalStateException.class, "absent(0, 0), the 21st", () -> x.absent(0, 0));
        refuses(x, IllegalArgumentException.class, "absent(0, 96), the 21st", () -> x.absent(0, 96));
        refuses(x, NoSuchElementException.class, "absent(1, 96), the 21st", () -> x.absent(1, 96));
    }

    private static void promise13Changed() {
        promise = "13 changed";
        GuidePlans x = withPersons(1, 1, 2);
        x.task(0, 0, 10, false);
        x.task(1, 0, 10, false);
        x.task(0, 20, 30, false);
        x.task(0, 40, 50, false);
        x.run();
        plan(x, 0, 2, 0, 1);
        refuses(x, NoSuchElementException.class, "changed(0)", () -> x.changed(0));
        is("absent(0, 0)", 2, x.absent(0, 0));
        is("changed(0)", 0, x.changed(0));
        is("changed(1)", 2, x.changed(1));
        refuses(x, NoSuchElementException.class, "changed(2)", () -> x.changed(2));
        for (int wild : WILD) {
            refuses(x, NoSuchElementException.class, "changed(" + wild + ")", () -> x.changed(wild));
        }
        is("run()", 10, x.run());
        is("changed(1) behind run()", 2, x.changed(1));
        is("swap(2, 3)", 0, x.swap(2, 3));
        is("count(3)", 2, x.count(3));
        is("absent(0, 0)", 0, x.absent(0, 0));
        refuses(x, NoSuchElementException.class, "changed(0)", () -> x.changed(0));
    }

    private static void promise14Swap() {
        promise = "14 swap";
        GuidePlans x = withPersons(1, 1);
        x.task(0, 0, 10, true);
        x.task(0, 5, 15, false);
        x.run();
        plan(x, 0, 1);
        is("swap(0, 1)", 0, x.swap(0, 1));
        plan(x, 1, 0);
        is("swap(1, 0)", 0, x.swap(1, 0));
        plan(x, 0, 1);
        is("swap(0, 0)", 0, x.swap(0, 0));
        plan(x, 0, 1);
        is("task", 2, x.task(0, 5, 15, false));
        is("swap(1, 2), with none", 0, x.swap(1, 2));
        plan(x, 0, NONE, 1);
        is("task", 3, x.task(1, 5, 15, false));
        is("swap(1, 3), none and none", 0, x.swap(1, 3));
        plan(x, 0, NONE, 1, NONE);
    }

    private static void promise14SwapRefusals() {
        promise = "14 swap, refusals";
        GuidePlans x = withPersons(1, 3);
        x.task(0, 10, 20, false);
        x.task(0, 15, 30, true);
        x.task(1, 40, 50, false);
        x.run();
        plan(x, 0, 1, 1);
        x.freeze(11);
        String ahead = everything(x);
        is("swap(0, 1)", 1, x.swap(0, 1));
        is("swap(1, 0)", 1, x.swap(1, 0));
        unchanged(x, "swap", ahead);
        x.freeze(10);
        x.task(0, 60, 70, false);
        ahead = everything(x);
        is("swap(1, 3)", 2, x.swap(1, 3));
        is("swap(3, 1)", 2, x.swap(3, 1));
        is("swap(0, 2)", 3, x.swap(0, 2));
        is("swap(2, 0)", 3, x.swap(2, 0));
        unchanged(x, "swap", ahead);
        GuidePlans near = withPersons(1, 1);
        near.task(0, 0, 10, false);
        near.task(0, 10, 15, false);
        near.task(0, 12, 20, false);
        near.run();
        plan(near, 0, 0, 1);
        is("swap(0, 2)", 4, near.swap(0, 2));
        is("swap(2, 0)", 4, near.swap(2, 0));
        plan(near, 0, 0, 1);
        is("swap(1, 2)", 0, near.swap(1, 2));
        near.rest(2);
        is("swap(1, 2), too near by the rest", 4, near.swap(1, 2));
        near.rest(0);
        near.limit(17);
        is("swap(2, 1)", 0, near.swap(2, 1));
        is("swap(1, 2), too many quarters", 5, near.swap(1, 2));
        is("swap(2, 1), too many quarters", 5, near.swap(2, 1));
        plan(near, 0, 0, 1);
        near.limit(18);
        is("swap(1, 2)", 0, near.swap(1, 2));
    }

    private static void promise14SwapOrderOfRefusals() {
        promise = "14 swap, the first that holds";
        GuidePlans x = withPersons(1, 3);
        x.task(0, 10, 20, true);
        x.task(1, 10, 20, false);
        x.run();
        plan(x, 0, 1);
        x.task(1, 10, 20, false);
        x.freeze(11);
        is("swap(0, 2), frozen ahead of empty", 1, x.swap(0, 2));
        x.freeze(0);
        is("swap(0, 2), empty ahead of unsuited", 2, x.swap(0, 2));
        x.limit(0);
        is("swap(0, 1), unsuited ahead of too long", 3, x.swap(0, 1));
        is("swap(0, 0), too long without a change", 5, x.swap(0, 0));
        is("swap(2, 2), none", 0, x.swap(2, 2));
        x.task(0, 30, 40, true);
        is("swap(3, 3), an empty ALWAYS", 2, x.swap(3, 3));
        GuidePlans y = withPersons(1, 1, 1);
        y.task(0, 0, 10, false);
        y.task(0, 10, 30, false);
        y.task(0, 15, 20, false);
        y.run();
        y.swap(0, 2);
        plan(y, 2, 1, 0);
        y.absent(2, 0);
        plan(y, 0, 1, 0);
        y.limit(15);
        is("swap(0, 1), too near ahead of too long", 4, y.swap(0, 1));
        y.off(1, 0, 1);
        is("swap(0, 1), unsuited ahead of too near", 3, y.swap(0, 1));
        GuidePlans third = withPersons(1, 1);
        third.task(0, 0, 10, false);
        third.task(0, 5, 15, false);
        third.run();
        third.task(0, 50, 60, true);
        is("swap(0, 1), a third task is an empty ALWAYS", 0, third.swap(0, 1));
        plan(third, 1, 0, NONE);
        GuidePlans others = withPersons(1, 2, 1);
        others.task(0, 0, 10, false);
        others.task(0, 0, 10, false);
        others.task(1, 20, 30, false);
        others.task(1, 30, 40, false);
        others.run();
        plan(others, 0, 2, 1, 1);
        others.rest(5);
        is("swap(0, 1), a third person's tasks lie too near", 0, others.swap(0, 1));
        others.limit(15);
        is("swap(0, 1), a third person has too much", 0, others.swap(0, 1));
    }

    private static void promise14SwapWrong() {
        promise = "14 swap, wrong inputs";
        GuidePlans x = withPersons(1);
        refuses(x, NoSuchElementException.class, "swap(0, 0)", () -> x.swap(0, 0));
        x.task(0, 0, 10, false);
        refuses(x, IllegalStateException.class, "swap(0, 0)", () -> x.swap(0, 0));
        refuses(x, NoSuchElementException.class, "swap(0, 1)", () -> x.swap(0, 1));
        x.run();
        refuses(x, NoSuchElementException.class, "swap(0, 1)", () -> x.swap(0, 1));
        refuses(x, NoSuchElementException.class, "swap(1, 0)", () -> x.swap(1, 0));
        for (int wild : WILD) {
            refuses(x, NoSuchElementException.class, "swap(0, " + wild + ")", () -> x.swap(0, wild));
            refuses(x, NoSuchElementException.class, "swap(" + wild + ", 0)", () -> x.swap(wild, 0));
        }
    }

    private static void promise15Work() {
        promise = "15 work";
        GuidePlans x = withPersons(1, 2, 4);
        x.task(0, 0, 10, false);
        x.task(0, 20, 23, false);
        x.task(1, 0, 96, false);
        is("work(0)", 0, x.work(0));
        x.run();
        is("work(0)", 13, x.work(0));
        is("work(1)", 96, x.work(1));
        is("work(2)", 0, x.work(2));
        refuses(x, NoSuchElementException.class, "work(3)", () -> x.work(3));
        for (int wild : WILD) {
            refuses(x, NoSuchElementException.class, "work(" + wild + ")", () -> x.work(wild));
        }
    }

    private static void promise16Fair() {
        promise = "16 fair";
        GuidePlans x = new GuidePlans();
        x.task(0, 0, 10, false);
        x.task(0, 20, 23, false);
        x.run();
        is("fair() without persons", 0, x.fair());
        x.person(1);
        x.run();
        is("fair() with one person", 0, x.fair());
        x.person(2);
        is("fair() with another one", 2, x.fair());
        x.task(1, 0, 10, false);
        x.run();
        is("fair()", 1, x.fair());
        x.task(1, 10, 20, false);
        x.run();
        is("fair()", 0, x.fair());
        x.person(0);
        is("fair()", 2, x.fair());
    }

    private static void promise17Count() {
        promise = "17 count";
        GuidePlans x = withPersons(1, 1, 1);
        x.task(0, 0, 10, false);
        x.task(0, 20, 30, false);
        x.off(2, 0, 96);
        x.off(2, 0, 96);
        x.off(2, 0, 96);
        x.off(2, 0, 96);
        x.run();
        x.absent(0, 0);
        is("count(0)", 3, x.count(0));
        is("count(1)", 2, x.count(1));
        is("count(2)", 5, x.count(2));
        is("count(3)", 1, x.count(3));
        refuses(x, NoSuchElementException.class, "count(4)", () -> x.count(4));
        for (int wild : WILD) {
            refuses(x, NoSuchElementException.class, "count(" + wild + ")", () -> x.count(wild));
        }
    }
}
