import java.io.IOException;
import java.nio.charset.StandardCharsets;
import java.nio.file.Files;
import java.nio.file.Path;
import java.util.ArrayList;
import java.util.List;

/** The example of README.md runs with the answers that it tells, and stands there as it stands here. */
public final class ReadmeTest {
    private static boolean wrong = false;

    public static void main(String[] args) throws IOException {
        example();
        List<String> here = between("src/test/java/ReadmeTest.java", "// the example begins", "// the example ends");
        List<String> there = between("README.md", "```java", "```");
        if (here.isEmpty() || !here.equals(there)) {
            System.out.println("the example of README.md is not the one that is tested");
            wrong = true;
        }
        if (wrong) {
            System.exit(1);
        }
        System.out.println("the example of README.md is as told");
    }

    private static void example() {
        // the example begins
        GuidePlans plans = new GuidePlans();
        int anna = plans.person(0b11);            // skills 0 and 1
        int ben = plans.person(0b01);             // skill 0
        int gate = plans.task(0, 32, 48, true);   // an ALWAYS: quarters 32 .. 47 of the day, never empty
        int tour = plans.task(1, 40, 56, false);
        int late = plans.task(0, 60, 68, false);
        plans.off(ben, 64, 72);
        plans.rest(4);                            // between two tasks of a person
        plans.limit(32);                          // quarters that a person may have

        int cost = plans.run();                   // 5: anna has two tasks, ben has one
        int guard = plans.of(gate);               // ben
        int quarters = plans.work(anna);          // 24
        int gap = plans.fair();                   // 1
        int refused = plans.swap(gate, tour);     // 3: ben does not suit the tour

        plans.freeze(36);                         // the gate begins ahead of it and stays as it is
        int changes = plans.absent(anna, 30);     // 2: nobody else suits the tour and the late one
        int first = plans.changed(0);             // tour
        int costNow = plans.cost();               // 201

        plans.freeze(0);
        int failed = plans.absent(ben, 30);       // NONE: nobody would be at the gate, so nothing changes
        int lacking = plans.told();               // 32, where the gate begins
        // the example ends
        same("cost", 5, cost);
        same("guard", ben, guard);
        same("quarters", 24, quarters);
        same("gap", 1, gap);
        same("refused", 3, refused);
        same("changes", 2, changes);
        same("first", tour, first);
        same("the second change", late, plans.changed(1));
        same("costNow", 201, costNow);
        same("failed", GuidePlans.NONE, failed);
        same("lacking", 32, lacking);
        same("the gate at the end", ben, plans.of(gate));
    }

    private static void same(String what, int due, int got) {
        if (due != got) {
            System.out.println(what + ": " + got + ", due was " + due);
            wrong = true;
        }
    }

    /** The lines behind the first that is the one text, up to the next that is the other, without indents. */
    private static List<String> between(String file, String first, String last) throws IOException {
        List<String> found = new ArrayList<>();
        boolean inside = false;
        for (String line : Files.readAllLines(Path.of(file), StandardCharsets.UTF_8)) {
            String text = line.strip();
            if (inside && text.equals(last)) {
                return found;
            }
            if (inside) {
                found.add(text);
            }
            inside = inside || text.equals(first);
        }
        return new ArrayList<>();
    }
}
