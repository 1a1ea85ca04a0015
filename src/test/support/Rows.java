import java.util.ArrayList;
import java.util.Arrays;
import java.util.List;
import java.util.regex.Matcher;
import java.util.regex.Pattern;

/**
 * Plays rows of calls on new objects and prints each answer that is not the one that is due.
 *
 * <p>A row is a call with its answer: "person(1) = 0", "run() = NONE", "cost() throws.IllegalStateException";
 * a call alone, which then must not throw; or "plan 0 1 NONE", who does task 0, 1 and 2. Behind each row
 * that is refused (it throws, a swap() is not 0, a run() or absent() is NONE) it is also looked whether
 * anything has changed: by a second object that had all calls but this one.
 */
final class Rows {
    /** The document promises nothing about an object behind this many calls. */
    private static final int MOST_CALLS = 512;
    private static final Pattern CALL = Pattern.compile("(\\w+)\\(([^)]*)\\)(?: = (\\S+)| (throws\\.\\w+))?");

    private static int played = 0;
    private static int wrong = 0;
    private static String sentence = "";

    private Rows() { }

    /** Names the words of the document that the next runs are about. */
    static void sentence(String words) {
        sentence = words;
    }

    /** Plays all rows on one new object. */
    static void run(String what, String... rows) {
        Played object = new Played();
        for (int n = 0; n < rows.length; n++) {
            String fault = rows[n].startsWith("plan ") ? faultOfPlan(object, rows[n]) : faultOfCall(object, rows, n);
            if (fault != null) {
                wrong++;
                System.out.println(sentence + "\n  " + what + ", row " + (n + 1) + ": " + fault);
            }
        }
    }

    /** Plays each call on a new object of its own, behind the same rows. */
    static void refused(String exception, String[] ahead, String... calls) {
        for (String call : calls) {
            run(call + " behind " + ahead.length + " calls", rows(ahead, call + " throws." + exception));
        }
    }

    /** Rows and arrays of rows as one array. */
    static String[] rows(Object... parts) {
        List<String> all = new ArrayList<>();
        for (Object part : parts) {
            if (part instanceof String[] many) {
                all.addAll(Arrays.asList(many));
            } else {
                all.add((String) part);
            }
        }
        return all.toArray(new String[0]);
    }

    static String[] times(int number, String... rows) {
        List<String> all = new ArrayList<>();
        for (int n = 0; n < number; n++) {
            all.addAll(Arrays.asList(rows));
        }
        return all.toArray(new String[0]);
    }

    /** Ends the test, with exit code 1 if an answer was wrong. */
    static void end() {
        System.out.println(played + " calls, " + wrong + " wrong");
        if (wrong != 0) {
            System.exit(1);
        }
    }

    private static String faultOfPlan(Played object, String row) {
        String[] doers = row.substring("plan ".length()).split(" ");
        for (int t = 0; t < doers.length; t++) {
            String got = object.answer("of(" + t + ")");
            if (!got.equals(plain(doers[t]))) {
                return "of(" + t + ") answered " + got + ", due is " + doers[t];
            }
        }
        return null;
    }

    private static String faultOfCall(Played object, String[] rows, int n) {
        Matcher row = parsed(rows[n]);
        String due = row.group(3) == null ? row.group(4) : plain(row.group(3));
        String got = object.answer(rows[n]);
        played++;
        if (due == null && got.startsWith("throws.") || due != null && !due.equals(got)) {
            return rows[n] + " answered " + got;
        }
        return isRefusal(row.group(1), got) ? changeBehind(rows, n) : null;
    }

    private static Matcher parsed(String row) {
        Matcher it = CALL.matcher(row);
        if (!it.matches()) {
            throw new IllegalArgumentException("not a row: " + row);
        }
        return it;
    }

    private static String plain(String answer) {
        return answer.equals("NONE") ? "-1" : answer;
    }

    private static boolean isRefusal(String name, String got) {
        boolean seeks = name.equals("run") || name.equals("absent");
        return got.startsWith("throws.") || seeks && got.equals("-1") || name.equals("swap") && !got.equals("0");
    }

    /** What is different behind the last of these rows from an object that had the others alone; or null. */
    private static String changeBehind(String[] rows, int last) {
        Played with = new Played();
        Played without = new Played();
        String got = "";
        for (int n = 0; n <= last; n++) {
            if (!rows[n].startsWith("plan ")) {
                got = with.answer(rows[n]);
                if (n < last) {
                    without.answer(rows[n]);
                }
            }
        }
        // told() is the one thing that a run() or absent() without a plan changes
        boolean toldStays = !got.equals("-1");
        List<String> behind = with.probe(toldStays);
        List<String> ahead = without.probe(toldStays);
        for (int n = 0; n < Math.min(behind.size(), ahead.size()); n++) {
            if (!behind.get(n).equals(ahead.get(n))) {
                return rows[last] + " changed something: then " + behind.get(n) + ", without it " + ahead.get(n);
            }
        }
        return behind.size() == ahead.size() ? null : rows[last] + " changed how many things there are";
    }

    /** An object, with a count of its calls. */
    private static final class Played {
        private final GuidePlans object = new GuidePlans();
        private int calls = 0;

        String answer(String row) {
            calls++;
            if (calls > MOST_CALLS) {
                throw new IllegalStateException("the test makes more than 512 calls: " + row);
            }
            Matcher it = parsed(row);
            String[] words = it.group(2).isEmpty() ? new String[0] : it.group(2).split(", ");
            try {
                return String.valueOf(called(it.group(1), words));
            } catch (RuntimeException e) {
                return "throws." + e.getClass().getSimpleName();
            }
        }

        private int called(String name, String[] words) {
            return switch (name) {
                case "person" -> object.person(number(words, 0));
                case "off" -> object.off(number(words, 0), number(words, 1), number(words, 2));
                case "task" -> object.task(number(words, 0), number(words, 1), number(words, 2), truth(words, 3));
                case "rest" -> object.rest(number(words, 0));
                case "limit" -> object.limit(number(words, 0));
                case "freeze" -> object.freeze(number(words, 0));
                case "run" -> object.run();
                case "told" -> object.told();
                case "of" -> object.of(number(words, 0));
                case "cost" -> object.cost();
                case "absent" -> object.absent(number(words, 0), number(words, 1));
                case "changed" -> object.changed(number(words, 0));
                case "swap" -> object.swap(number(words, 0), number(words, 1));
                case "work" -> object.work(number(words, 0));
                case "fair" -> object.fair();
                case "count" -> object.count(number(words, 0));
                default -> throw new Error("no such call: " + name);
            };
        }

        private static int number(String[] words, int n) {
            return Integer.parseInt(words[n]);
        }

        private static boolean truth(String[] words, int n) {
            return switch (words[n]) {
                case "always" -> true;
                case "once" -> false;
                default -> throw new Error("neither always nor once: " + words[n]);
            };
        }

        /** The answers of many calls, by which what lies hidden in the object shows itself. */
        List<String> probe(boolean withTold) {
            List<String> all = new ArrayList<>();
            look(all, withTold);
            for (String call : new String[] {"rest(0)", "limit(96)", "freeze(0)"}) {
                String former = note(all, call);
                note(all, call.replaceAll("\\d+", former));
            }
            look(all, withTold);
            for (int a = 0; a < 6; a++) {
                note(all, "swap(" + a + ", " + (a + 1) % 6 + ")");
            }
            for (int p = 0; p < 4; p++) {
                note(all, "absent(" + p + ", " + (80 - 20 * p) + ")");
                look(all, false);
            }
            note(all, "run()");
            look(all, true);
            note(all, "rest(0)");
            note(all, "limit(96)");
            note(all, "run()");
            look(all, true);
            noteUntilRefused(all, "off(0, 0, 1)");
            noteUntilRefused(all, "task(0, 40, 90, once)");
            noteUntilRefused(all, "person(255)");
            note(all, "run()");
            look(all, true);
            return all;
        }

        private String note(List<String> all, String call) {
            String got = answer(call);
            all.add(call + " " + got);
            return got;
        }

        private void noteUntilRefused(List<String> all, String call) {
            boolean taken = true;
            for (int n = 0; n <= 20 && taken; n++) {
                taken = !note(all, call).startsWith("throws.");
            }
        }

        private void look(List<String> all, boolean withTold) {
            noteUpTo(all, "count", 4);
            noteUpTo(all, "of", Integer.parseInt(answer("count(1)")));
            noteUpTo(all, "work", Integer.parseInt(answer("count(0)")));
            noteUpTo(all, "changed", Integer.parseInt(answer("count(3)")));
            note(all, "cost()");
            note(all, "fair()");
            if (withTold) {
                note(all, "told()");
            }
        }

        private void noteUpTo(List<String> all, String name, int size) {
            for (int n = 0; n < size; n++) {
                note(all, name + "(" + n + ")");
            }
        }
    }
}
