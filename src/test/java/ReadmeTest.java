import java.io.IOException;
import java.lang.reflect.Field;
import java.lang.reflect.Method;
import java.lang.reflect.Modifier;
import java.nio.file.Files;
import java.nio.file.Path;
import java.util.Set;
import java.util.TreeSet;

/** README.md: it names every member of the face, and its example is the code below. */
public final class ReadmeTest {
    private static final Path README = Path.of("README.md");
    private static final Path THIS = Path.of("src/test/java/ReadmeTest.java");

    public static void main(String[] args) throws IOException {
        Checks checks = new Checks();
        String readme = Files.readString(README);
        namesTheFace(checks, readme);
        tellsEveryCall(checks, readme);
        showsWhatIsRunHere(checks, readme);
        answersWhatTheExampleSays(checks);
        answersWhatElseSays(checks, readme);
        checks.end();
    }

    private static void namesTheFace(Checks checks, String readme) {
        for (Field field : KitRunner.class.getDeclaredFields()) {
            if (Modifier.isPublic(field.getModifiers())) {
                checks.due("README names " + field.getName(), readme.contains("`" + field.getName() + "`") ? 1 : 0, 1);
            }
        }
        for (String name : publicMethods()) {
            checks.due("README's example calls " + name, example(readme).contains("kit." + name + "(") ? 1 : 0, 1);
        }
    }

    private static void tellsEveryCall(Checks checks, String readme) {
        Set<String> told = new TreeSet<>();
        for (String line : readme.split("\n")) {
            if (line.startsWith("| `")) {
                told.add(line.substring(3, line.indexOf('(')));
            }
        }
        checks.dueText("calls in README's table", told.toString(), publicMethods().toString());
    }

    private static Set<String> publicMethods() {
        Set<String> names = new TreeSet<>();
        for (Method method : KitRunner.class.getDeclaredMethods()) {
            if (Modifier.isPublic(method.getModifiers())) {
                names.add(method.getName());
            }
        }
        return names;
    }

    private static String example(String readme) {
        String start = "```java\n";
        int from = readme.indexOf(start);
        int to = readme.indexOf("```", from + start.length());
        return from < 0 || to < 0 ? "" : readme.substring(from + start.length(), to);
    }

    // The example can't go astray from what is tested: each of its lines stands in this file.
    private static void showsWhatIsRunHere(Checks checks, String readme) throws IOException {
        Set<String> here = new TreeSet<>();
        for (String line : Files.readAllLines(THIS)) {
            here.add(withoutComment(line));
        }
        for (String line : example(readme).split("\n")) {
            checks.due("ReadmeTest runs [" + line + "]", here.contains(withoutComment(line)) ? 1 : 0, 1);
        }
    }

    private static String withoutComment(String line) {
        int comment = line.indexOf("//");
        return (comment < 0 ? line : line.substring(0, comment)).strip();
    }

    private static void answersWhatTheExampleSays(Checks checks) {
        KitRunner kit = new KitRunner();
        int div = kit.find(0x646976L);
        checks.due("div", div, 3);
        kit.fault(div, 2, 5);
        checks.due("faults", kit.count(8), 1);
        kit.exclude(4, 0);
        checks.due("exclusions", kit.count(9), 1);
        kit.enable(1 << 3 | 1 << 4);

        long foretold = kit.outcome(div, 7, 0, false);
        checks.due("foretold", foretold, KitRunner.KIND);
        long given = kit.outcome(div, 7, 0, true);
        checks.due("given", given, 5);

        int failures = kit.run(1, false);
        checks.due("failures", failures, 3);
        long a = kit.failure(2, 1);
        checks.due("a", a, -1);
        checks.due("b", kit.failure(2, 2), 0);
        long smallest = kit.shrink(2, 0);
        checks.due("smallest", smallest, 0);
        checks.due("smallest b", kit.shrink(2, 1), 0);
        long steps = kit.shrink(2, 2);
        checks.due("steps", steps, 1);
        int marks = kit.ledger(div);
        checks.due("marks", marks, 7);

        StringBuilder report = new StringBuilder();
        for (int i = 0; i < kit.count(5); i++) {
            report.append((char) kit.letter(i));
        }
        checks.dueText("report", report.toString(), "div 9 3\nrem 4 0\nFAIL\n");

        kit.clear(2);
        checks.due("faults and exclusions", kit.count(8) + kit.count(9), 0);
    }

    private static void answersWhatElseSays(Checks checks, String readme) {
        KitRunner kit = new KitRunner();
        checks.dueText("fault", elseOf(readme, "fault"), told(kit.fault(16, 0, 0)) + ", " + fifthFault(kit));
        checks.dueText("exclude", elseOf(readme, "exclude"), told(kit.exclude(16, 0)) + ", " + seventhExclusion(kit));
        checks.dueText("clear", elseOf(readme, "clear"), told(kit.clear(3)));
        checks.dueText("enable", elseOf(readme, "enable"), told(kit.enable(65536)));
        checks.dueText("find", elseOf(readme, "find"), told(kit.find(0)));
        checks.dueText("outcome", elseOf(readme, "outcome"), told(kit.outcome(16, 0, 0, true)));
        checks.dueText("run", elseOf(readme, "run"), told(kit.run(4, true)));
        checks.dueText("failure", elseOf(readme, "failure"), told(kit.failure(0, 0)));
        checks.dueText("shrink", elseOf(readme, "shrink"), told(kit.shrink(0, 0)));
        checks.dueText("ledger", elseOf(readme, "ledger"), told(kit.ledger(16)));
        checks.dueText("letter", elseOf(readme, "letter"), told(kit.letter(0)));
        checks.dueText("count", elseOf(readme, "count"), told(kit.count(10)));
    }

    /** The last column of the call's row. */
    private static String elseOf(String readme, String call) {
        for (String line : readme.split("\n")) {
            if (line.startsWith("| `" + call + "(")) {
                String[] columns = line.split("\\|");
                return columns[columns.length - 1].strip();
            }
        }
        return "no row";
    }

    private static String fifthFault(KitRunner kit) {
        for (int i = 0; i < 4; i++) {
            kit.fault(0, 0, i);
        }
        return told(kit.fault(0, 0, 4));
    }

    private static String seventhExclusion(KitRunner kit) {
        for (int i = 0; i < 6; i++) {
            kit.exclude(0, i);
        }
        return told(kit.exclude(0, 6));
    }

    private static String told(long answer) {
        return answer == KitRunner.REFUSED ? "`REFUSED`"
            : answer == KitRunner.FULL ? "`FULL`"
            : answer == KitRunner.NONE ? "`NONE`"
            : String.valueOf(answer);
    }
}
