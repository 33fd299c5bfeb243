/** Promise 12. */
public final class LetterTest {
    public static void main(String[] args) {
        Checks checks = new Checks();
        writesTheWholeReport(checks);
        writesNumbersWithoutLeadingZeros(checks);
        isZeroElsewhere(checks);
        writesTheLatestRun(checks);
        checks.end();
    }

    private static void writesTheWholeReport(Checks checks) {
        KitRunner kit = new KitRunner();
        kit.run(1, false);
        checks.dueText("report of bound 1", Checks.report(kit),
            "add 9 0\nsub 9 0\nmul 9 0\ndiv 9 0\nrem 9 0\nshl 9 0\nshr 9 0\nushr 9 0\nbyte 9 0\nchar 9 0\n"
            + "at 9 0\ncell 9 0\nsize 9 0\ncast 9 0\ntext 9 0\ncmp 9 0\nPASS\n");
        kit.fault(3, 2, 0);
        kit.fault(15, 0, 1);
        kit.run(3, true);
        checks.dueText("report by pairs", Checks.report(kit),
            "add 144 0\nsub 23 0\nmul 23 0\ndiv 23 12\nrem 23 0\nshl 23 0\nshr 23 0\nushr 23 0\nbyte 23 0\n"
            + "char 23 0\nat 23 0\ncell 23 0\nsize 23 0\ncast 23 0\ntext 23 0\ncmp 23 1\nFAIL\n");
    }

    private static void writesNumbersWithoutLeadingZeros(Checks checks) {
        KitRunner kit = new KitRunner();
        kit.fault(0, 4, Checks.MIN);
        kit.enable(1);
        kit.run(3, false);
        // All but the sums that are MIN: 0 and MIN, 1 and MAX, both ways round.
        checks.dueText("hundreds", Checks.report(kit), "add 144 140\nFAIL\n");
        kit.exclude(0, Checks.MIN);
        kit.run(3, false);
        checks.dueText("without MIN", Checks.report(kit), "add 121 119\nFAIL\n");
        kit.exclude(0, 65536);
        kit.run(3, false);
        checks.dueText("two noughts", Checks.report(kit), "add 100 98\nFAIL\n");
        kit.clear(2);
        kit.fault(0, 0, 3);
        kit.fault(0, 1, 3);
        kit.run(3, false);
        checks.dueText("tens", Checks.report(kit), "add 144 23\nFAIL\n");
        kit.clear(0);
        kit.fault(11, 2, 0);
        kit.enable(1 << 11);
        kit.run(3, false);
        checks.dueText("a nought in the middle", Checks.report(kit), "cell 144 108\nFAIL\n");
        kit.clear(2);
        kit.fault(3, 2, 0);
        kit.enable(1 << 3);
        kit.exclude(3, 1);
        kit.exclude(3, -1);
        kit.run(3, false);
        checks.dueText("a nought at the end", Checks.report(kit), "div 100 10\nFAIL\n");
    }

    private static void isZeroElsewhere(Checks checks) {
        KitRunner kit = new KitRunner();
        int[] anywhere = {-1, 0, 1, 138, 139, 255, 256, 1000000, Checks.MIN, Checks.MAX};
        for (int i : anywhere) {
            checks.due("letter(" + i + ") before a run", kit.letter(i), 0);
        }
        kit.run(1, false);
        checks.due("length", kit.count(5), 139);
        checks.due("first", kit.letter(0), 'a');
        checks.due("last", kit.letter(138), 10);
        int[] outside = {-1, -2, 139, 140, 255, 256, 1000000, Checks.MIN, Checks.MAX};
        for (int i : outside) {
            checks.due("letter(" + i + ")", kit.letter(i), 0);
        }
    }

    private static void writesTheLatestRun(Checks checks) {
        KitRunner kit = new KitRunner();
        kit.run(3, false);
        kit.enable(1 << 10);
        checks.due("enable changes none", kit.letter(0), 'a');
        checks.due("enable changes none", kit.letter(1), 'd');
        kit.run(0, false);
        checks.due("a refused run changes none", kit.letter(1), 'd');
        kit.run(1, false);
        checks.dueText("the latest", Checks.report(kit), "at 9 0\nPASS\n");
        checks.due("behind its end", kit.letter(12), 0);
        checks.due("behind its end", kit.letter(13), 0);
    }
}
