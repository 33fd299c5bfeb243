/** The edges that the sentences on THE REPORT (Terms) name. */
public final class EdgesOfReportTest {
    private final Checks checks = new Checks();

    public static void main(String[] args) {
        EdgesOfReportTest test = new EdgesOfReportTest();
        test.emptyBeforeTheFirstRun();
        test.ofTheLatestRun();
        test.onlyWithACaseTaken();
        test.endsEachLineWithCode10();
        test.withoutLeadingZeros();
        test.failOrPass();
        test.longest();
        test.checks.end();
    }

    private void report(String what, KitRunner kit, String due) {
        checks.dueText(what, Checks.report(kit), due);
        checks.due(what + ": length", kit.count(5), due.length());
        checks.due(what + ": behind its end", kit.letter(due.length()), 0);
    }

    private void emptyBeforeTheFirstRun() {
        checks.sentence("Empty before the first RUN");
        KitRunner kit = new KitRunner();
        report("new", kit, "");
        kit.fault(0, 0, 0);
        kit.exclude(0, 0);
        kit.enable(1);
        kit.run(0, false);
        kit.run(4, true);
        report("without a run", kit, "");
        checks.due("first letter", kit.letter(0), 0);
        kit.run(1, false);
        checks.due("first letter after a run", kit.letter(0), 'a');
    }

    private void ofTheLatestRun() {
        checks.sentence("THE REPORT of the latest RUN");
        KitRunner kit = new KitRunner();
        kit.run(1, false);
        kit.enable(1 << 10);
        checks.due("the former is there until a run", kit.count(5), 139);
        kit.run(1, false);
        report("shorter", kit, "at 9 0\nPASS\n");
        checks.due("nothing left of the longer", kit.letter(100), 0);
        kit.enable(0);
        kit.run(1, false);
        report("of no entry point", kit, "PASS\n");
        kit.enable(1 << 7);
        kit.run(2, false);
        report("longer again", kit, "ushr 36 0\nPASS\n");
    }

    private void onlyWithACaseTaken() {
        checks.sentence("for each ENABLED entry point in order with a case TAKEN");
        KitRunner kit = new KitRunner();
        kit.enable(1 | 1 << 1 | 1 << 15);
        for (int n = -1; n <= 1; n++) {
            kit.exclude(0, n);
            kit.exclude(15, n);
        }
        kit.run(1, false);
        report("all left out of the first and the last", kit, "sub 9 0\nPASS\n");
        kit.clear(1);
        kit.exclude(0, 0);
        kit.exclude(0, 1);
        kit.run(1, false);
        report("one case is enough", kit, "add 1 0\nsub 9 0\ncmp 9 0\nPASS\n");
    }

    private void endsEachLineWithCode10() {
        checks.sentence("its name, a blank, how many TAKEN, a blank, how many FAILURES, code 10");
        KitRunner kit = new KitRunner();
        kit.enable(1 << 3);
        kit.fault(3, 2, 1);
        kit.run(1, false);
        int[] due = {'d', 'i', 'v', 32, '9', 32, '3', 10, 'F', 'A', 'I', 'L', 10, 0};
        for (int i = 0; i < due.length; i++) {
            checks.due("letter(" + i + ")", kit.letter(i), due[i]);
        }
    }

    private void withoutLeadingZeros() {
        checks.sentence("without leading zeros");
        KitRunner kit = new KitRunner();
        kit.enable(1 << 13);
        kit.fault(13, 2, 0);
        kit.exclude(13, 0);
        kit.exclude(13, 1);
        kit.run(1, false);
        report("1 and 0", kit, "cast 1 0\nPASS\n");
        kit.run(2, false);
        report("16 and 12", kit, "cast 16 12\nFAIL\n");
        kit.run(3, false);
        report("100 and 90", kit, "cast 100 90\nFAIL\n");
        kit.exclude(13, 2);
        kit.run(3, false);
        report("81 and 72", kit, "cast 81 72\nFAIL\n");
        kit.clear(1);
        kit.run(1, false);
        report("9 and 6", kit, "cast 9 6\nFAIL\n");
        kit.run(3, false);
        report("144 and 132", kit, "cast 144 132\nFAIL\n");
        kit.clear(2);
        kit.enable(1 << 11);
        kit.fault(11, 2, 0);
        kit.run(3, false);
        report("144 and 108", kit, "cell 144 108\nFAIL\n");
        kit.clear(2);
        kit.enable(1 << 3);
        kit.fault(3, 2, 0);
        kit.exclude(3, 1);
        kit.exclude(3, 2);
        kit.run(3, false);
        report("100 and 10", kit, "div 100 10\nFAIL\n");
    }

    private void failOrPass() {
        checks.sentence("and then, for a RUN with FAILURES, FAIL, else PASS, and code 10");
        KitRunner kit = new KitRunner();
        kit.enable(1 << 12 | 1 << 13);
        kit.run(1, false);
        report("none", kit, "size 9 0\ncast 9 0\nPASS\n");
        kit.fault(13, 0, 1);
        kit.run(1, false);
        report("one, of the last", kit, "size 9 0\ncast 9 1\nFAIL\n");
        kit.enable(1 << 12);
        kit.run(1, false);
        report("of one not enabled", kit, "size 9 0\nPASS\n");
        kit.enable(1 << 13);
        kit.exclude(13, 1);
        kit.run(1, false);
        report("all failures left out", kit, "cast 4 0\nPASS\n");
    }

    private void longest() {
        checks.sentence("THE REPORT: the longest");
        KitRunner kit = new KitRunner();
        kit.fault(0, 4, Checks.MIN);
        kit.fault(7, 4, Checks.MIN);
        kit.fault(8, 4, Checks.MIN);
        kit.fault(14, 2, 0);
        kit.run(3, false);
        report("all entry points, hundreds of failures", kit,
            "add 144 140\nsub 144 0\nmul 144 0\ndiv 144 0\nrem 144 0\nshl 144 0\nshr 144 0\nushr 144 139\n"
            + "byte 144 144\nchar 144 0\nat 144 0\ncell 144 0\nsize 144 0\ncast 144 0\ntext 144 78\ncmp 144 0\nFAIL\n");
    }
}
