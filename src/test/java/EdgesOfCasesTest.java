/** The edges that the sentences on THE LATTICE, cases, EXCLUSIONS and a RUN (Terms) name. */
public final class EdgesOfCasesTest {
    private static final int MIN = Checks.MIN;
    private static final int MAX = Checks.MAX;
    private static final int[] LATTICE = {0, 1, -1, 2, MIN, MAX, 3, 31, 32, -2, 128, 65536};

    private final Checks checks = new Checks();

    public static void main(String[] args) {
        EdgesOfCasesTest test = new EdgesOfCasesTest();
        test.latticeOfBound(1, 3, "1: 0, 1, -1");
        test.latticeOfBound(2, 6, "2: these and 2, -2^31, 2^31 - 1");
        test.latticeOfBound(3, 12, "3: these and 3, 31, 32, -2, 128, 65536 (in this order)");
        test.standInOrder();
        test.holdsAtMostSixExclusions();
        test.leavesOutAAndB();
        test.leavesOutAll();
        test.leavesOutNothing();
        test.enablesAllAtFirst();
        test.runsNone();
        test.takesFirstPairs();
        test.countsNoPairOfCasesLeftOut();
        test.forgetsPairsOfFormerRuns();
        test.seesAnotherValueOrKind();
        test.keepsTwelve();
        test.checks.end();
    }

    private static KitRunner enabled(int mask) {
        KitRunner kit = new KitRunner();
        kit.enable(mask);
        return kit;
    }

    private void report(KitRunner kit, String due) {
        checks.dueText("report", Checks.report(kit), due);
    }

    private void latticeOfBound(int bound, int size, String sentence) {
        checks.sentence("THE LATTICE for a BOUND: " + sentence);
        // Each division by 0 fails, so the failures tell every a; each difference from 0, so they tell every b.
        KitRunner kit = enabled(1 << 3);
        kit.fault(3, 2, 5);
        checks.due("failures", kit.run(bound, false), size);
        checks.due("cases", kit.count(0), size * size);
        for (int i = 0; i < 12; i++) {
            checks.due("a of failure " + i, kit.failure(i, 1), i < size ? LATTICE[i] : KitRunner.NONE);
        }
        kit.fault(1, 0, 0);
        kit.enable(1 << 1);
        checks.due("failures", kit.run(bound, false), size);
        for (int i = 0; i < 12; i++) {
            checks.due("b of failure " + i, kit.failure(i, 2), i < size ? LATTICE[i] : KitRunner.NONE);
        }
    }

    private void standInOrder() {
        checks.sentence("Cases stand in the order of entry points, then a, then b, as THE LATTICE has them");
        KitRunner kit = enabled(1 | 1 << 15);
        kit.fault(15, 4, MIN);
        kit.fault(0, 4, -1);
        checks.due("failures", kit.run(1, false), 15);
        // The sums that are not below 0, and then all comparisons, up to the twelfth.
        int[][] due = {
            {0, 0, 0}, {0, 0, 1}, {0, 1, 0}, {0, 1, 1}, {0, 1, -1}, {0, -1, 1},
            {15, 0, 0}, {15, 0, 1}, {15, 0, -1}, {15, 1, 0}, {15, 1, 1}, {15, 1, -1},
        };
        for (int i = 0; i < due.length; i++) {
            for (int what = 0; what <= 2; what++) {
                checks.due("failure(" + i + ", " + what + ")", kit.failure(i, what), due[i][what]);
            }
        }
    }

    private void holdsAtMostSixExclusions() {
        checks.sentence("EXCLUSIONS, at most 6");
        KitRunner kit = enabled(255);
        for (int entry = 0; entry < 8; entry++) {
            kit.exclude(entry, 0);
        }
        checks.due("exclusions", kit.count(9), 6);
        kit.run(1, false);
        report(kit, "add 4 0\nsub 4 0\nmul 4 0\ndiv 4 0\nrem 4 0\nshl 4 0\nshr 9 0\nushr 9 0\nPASS\n");
    }

    private void leavesOutAAndB() {
        checks.sentence("cases of it with that as a or b are left out");
        KitRunner kit = enabled(3);
        kit.fault(0, 4, MIN);
        kit.exclude(0, 1);
        kit.run(1, false);
        report(kit, "add 4 4\nsub 9 0\nFAIL\n");
        int[][] due = {{0, 0}, {0, -1}, {-1, 0}, {-1, -1}};
        for (int i = 0; i < due.length; i++) {
            checks.due("a of failure " + i, kit.failure(i, 1), due[i][0]);
            checks.due("b of failure " + i, kit.failure(i, 2), due[i][1]);
        }
        checks.due("each of them once, also the one with 1 as a and b", kit.count(2), 5);
        kit.exclude(0, 1);
        kit.run(1, false);
        checks.due("once still with the same exclusion twice", kit.count(2), 5);
    }

    private void leavesOutAll() {
        checks.sentence("EXCLUSIONS: all cases of an entry point are left out");
        KitRunner kit = enabled(1 << 3 | 1 << 4);
        for (int i = 0; i < 6; i++) {
            kit.exclude(3, LATTICE[i]);
        }
        kit.run(2, false);
        report(kit, "rem 36 0\nPASS\n");
        checks.due("left out", kit.count(2), 36);
        kit.run(2, true);
        report(kit, "rem 36 0\nPASS\n");
        checks.due("ledger", kit.ledger(3), 0);
        kit.run(3, false);
        report(kit, "div 36 0\nrem 144 0\nPASS\n");
        kit.enable(1 << 3);
        checks.due("run with no case", kit.run(2, false), 0);
        report(kit, "PASS\n");
        checks.due("cases", kit.count(0), 0);
        checks.due("pairs", kit.count(3), 0);
    }

    private void leavesOutNothing() {
        checks.sentence("EXCLUSIONS: a number that is not in THE LATTICE of the BOUND leaves nothing out");
        KitRunner kit = enabled(1);
        kit.exclude(0, 2);
        kit.exclude(0, MIN);
        kit.exclude(0, 65536);
        kit.exclude(0, 4);
        kit.exclude(1, 0);
        kit.run(1, false);
        checks.due("with bound 1", kit.count(2), 0);
        kit.run(2, false);
        checks.due("with bound 2", kit.count(2), 36 - 16);
        kit.run(3, false);
        checks.due("with bound 3", kit.count(2), 144 - 81);
    }

    private void enablesAllAtFirst() {
        checks.sentence("A RUN of the ENABLED entry points (all at first)");
        KitRunner kit = new KitRunner();
        kit.run(1, false);
        checks.due("cases", kit.count(0), 16 * 9);
        for (int entry = 0; entry < 16; entry++) {
            checks.due("ledger of " + entry + " is not empty", kit.ledger(entry) > 0 ? 1 : 0, 1);
        }
    }

    private void runsNone() {
        checks.sentence("A RUN of the ENABLED entry points: there are none");
        KitRunner kit = enabled(0);
        kit.fault(0, 4, MIN);
        kit.exclude(0, 0);
        for (int bound = 1; bound <= 3; bound++) {
            checks.due("run", kit.run(bound, bound == 2), 0);
            checks.due("cases", kit.count(0), 0);
            checks.due("left out", kit.count(2), 0);
            checks.due("runs", kit.count(7), bound);
            report(kit, "PASS\n");
        }
    }

    private void takesFirstPairs() {
        checks.sentence("by PAIRS only those are TAKEN that have a pair that no case TAKEN before has");
        KitRunner kit = enabled(1 << 0 | 1 << 1 | 1 << 15);
        kit.run(1, true);
        // sub and cmp bring no new pair of a and b: only those that are the first with their a or their b.
        report(kit, "add 9 0\nsub 5 0\ncmp 5 0\nPASS\n");
        checks.due("pairs", kit.count(3), 3 * 6 + 9);
        kit.fault(1, 4, MIN);
        kit.run(1, true);
        int[][] due = {{0, 0}, {0, 1}, {0, -1}, {1, 0}, {-1, 0}};
        for (int i = 0; i < due.length; i++) {
            checks.due("a of failure " + i, kit.failure(i, 1), due[i][0]);
            checks.due("b of failure " + i, kit.failure(i, 2), due[i][1]);
        }
        kit.run(1, false);
        report(kit, "add 9 0\nsub 9 9\ncmp 9 0\nFAIL\n");
    }

    private void countsNoPairOfCasesLeftOut() {
        checks.sentence("by PAIRS: a case that is left out is not TAKEN, so its pairs are new for later cases");
        KitRunner kit = enabled(3);
        kit.exclude(0, 0);
        kit.run(1, true);
        // add has (1,1) (1,-1) (-1,1) (-1,-1); sub lacks (1,1) (1,-1) (-1,1) (-1,-1), for which nothing is new.
        report(kit, "add 4 0\nsub 5 0\nPASS\n");
        checks.due("pairs", kit.count(3), 4 + 6 + 9);
        kit.clear(1);
        kit.exclude(0, -1);
        kit.run(1, true);
        // add has (0,0) (0,1) (1,0) (1,1); sub all but (1,1).
        report(kit, "add 4 0\nsub 8 0\nPASS\n");
        checks.due("pairs", kit.count(3), 4 + 6 + 9);
    }

    private void forgetsPairsOfFormerRuns() {
        checks.sentence("by PAIRS: cases that a former RUN has TAKEN don't count");
        KitRunner kit = enabled(3);
        for (int i = 0; i < 3; i++) {
            kit.run(1, i == 1);
            checks.due("pairs of run " + i, kit.count(3), 6 + 6 + 9);
            kit.run(1, true);
            checks.due("pairs of the run behind it", kit.count(3), 6 + 6 + 9);
            report(kit, "add 9 0\nsub 5 0\nPASS\n");
        }
    }

    private void seesAnotherValueOrKind() {
        checks.sentence("if THE MACHINE gives another VALUE or KIND than THE ORACLE it is a FAILURE");
        KitRunner kit = enabled(1 << 13);
        // Only (1,1) has another value, then only (1,1) has trouble for a value.
        kit.fault(13, 0, 1);
        checks.due("another value", kit.run(1, false), 1);
        kit.clear(0);
        kit.fault(13, 1, 1);
        checks.due("trouble for a value", kit.run(1, false), 1);
        kit.clear(0);
        kit.fault(13, 2, 0);
        checks.due("a value for trouble", kit.run(1, false), 6);
        kit.clear(0);
        kit.fault(13, 3, 0);
        checks.due("another kind", kit.run(1, false), 6);
        kit.clear(0);
        kit.fault(13, 0, 5);
        kit.fault(13, 4, MAX);
        checks.due("faults that never apply", kit.run(1, false), 0);
    }

    private void keepsTwelve() {
        checks.sentence("The first 12 are kept, all are counted");
        KitRunner kit = enabled(1 << 3 | 1 << 13);
        kit.fault(13, 0, MAX);
        kit.run(3, false);
        checks.due("one", kit.count(1), 1);
        checks.due("it is kept", kit.failure(0, 0), 13);
        checks.due("no other", kit.failure(1, 0), KitRunner.NONE);
        kit.fault(3, 2, 0);
        kit.exclude(3, 65536);
        checks.due("twelve", kit.run(3, false), 12);
        checks.due("the eleventh", kit.failure(10, 0), 3);
        checks.due("the twelfth", kit.failure(11, 0), 13);
        checks.due("no more", kit.failure(12, 0), KitRunner.NONE);
        kit.clear(1);
        checks.due("thirteen", kit.run(3, false), 13);
        checks.due("all are counted", kit.count(1), 13);
        checks.due("the first", kit.failure(0, 0), 3);
        checks.due("the twelfth", kit.failure(11, 0), 3);
        checks.due("its a", kit.failure(11, 1), 65536);
        checks.due("the thirteenth is not kept", kit.failure(12, 0), KitRunner.NONE);
    }
}
