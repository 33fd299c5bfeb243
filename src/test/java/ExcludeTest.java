/** Promise 3. */
public final class ExcludeTest {
    public static void main(String[] args) {
        Checks checks = new Checks();
        refusesWhatIsOutOfRange(checks);
        takesSix(checks);
        leavesCasesOut(checks);
        changesNoOutcome(checks);
        checks.end();
    }

    private static void refusesWhatIsOutOfRange(Checks checks) {
        KitRunner kit = new KitRunner();
        int[] wrong = {-1, 16, 17, Checks.MIN, Checks.MAX};
        for (int entry : wrong) {
            checks.due("exclude(" + entry + ", 0)", kit.exclude(entry, 0), -1);
            checks.due("exclusions after a refused one", kit.count(9), 0);
        }
        for (int i = 0; i < 6; i++) {
            kit.exclude(0, i);
        }
        checks.due("out of range when full", kit.exclude(16, 0), -1);
    }

    private static void takesSix(Checks checks) {
        KitRunner kit = new KitRunner();
        checks.due("first", kit.exclude(0, 1), 1);
        checks.due("the same again", kit.exclude(0, 1), 2);
        checks.due("last entry", kit.exclude(15, Checks.MIN), 3);
        checks.due("no lattice number", kit.exclude(1, 1234), 4);
        checks.due("fifth", kit.exclude(2, Checks.MAX), 5);
        checks.due("sixth", kit.exclude(3, 65536), 6);
        checks.due("seventh", kit.exclude(4, 0), -2);
        checks.due("eighth", kit.exclude(4, 0), -2);
        checks.due("count of them", kit.count(9), 6);
        kit.run(3, false);
        // Four numbers count once each: 23 of the 144 cases of their entry points.
        checks.due("left out", kit.count(2), 4 * 23);
        checks.due("taken", kit.count(0), 16 * 144 - 4 * 23);
    }

    private static void leavesCasesOut(Checks checks) {
        KitRunner kit = new KitRunner();
        kit.enable(1 << 0 | 1 << 3);
        kit.exclude(3, 0);
        kit.exclude(5, 0);
        kit.run(1, false);
        checks.due("left out by one number", kit.count(2), 5);
        checks.due("taken", kit.count(0), 13);
        checks.dueText("report", Checks.report(kit), "add 9 0\ndiv 4 0\nPASS\n");
        checks.due("no division by 0 was run", kit.ledger(3), 1 | 4);
        kit.exclude(3, 1);
        kit.run(1, false);
        checks.due("left out by two numbers", kit.count(2), 8);
        checks.dueText("report", Checks.report(kit), "add 9 0\ndiv 1 0\nPASS\n");
        kit.exclude(3, -1);
        kit.run(1, false);
        checks.due("all left out", kit.count(2), 9);
        checks.dueText("report", Checks.report(kit), "add 9 0\nPASS\n");
        kit.run(2, false);
        checks.due("left out with a greater bound", kit.count(2), 27);
    }

    private static void changesNoOutcome(Checks checks) {
        KitRunner kit = new KitRunner();
        kit.exclude(0, 1);
        checks.due("oracle", kit.outcome(0, 1, 1, false), 2);
        checks.due("machine", kit.outcome(0, 1, 1, true), 2);
    }
}
