/** The ranges that promises 1 to 13 name: the last number within, the first one without, on both sides. */
public final class EdgesOfPromisesTest {
    private static final int MIN = Checks.MIN;
    private static final int MAX = Checks.MAX;
    private static final long NONE = -1000000000000L;
    private static final int REFUSED = -1;
    private static final int FULL = -2;

    private final Checks checks = new Checks();

    public static void main(String[] args) {
        EdgesOfPromisesTest test = new EdgesOfPromisesTest();
        test.newObject();
        test.faultRange();
        test.faultRoom();
        test.excludeRange();
        test.excludeRoom();
        test.clearRange();
        test.enableRange();
        test.findNames();
        test.findNone();
        test.outcomeRange();
        test.runRange();
        test.failureRange();
        test.shrinkRange();
        test.shrinkNoFailureAnyMore();
        test.ledgerRange();
        test.letterRange();
        test.countRange();
        test.countWithoutARun();
        test.countLeftOut();
        test.countStatus();
        test.countRuns();
        test.checks.end();
    }

    private void newObject() {
        checks.sentence("Promise 1: No FAULTS, EXCLUSIONS and RUNS");
        KitRunner kit = new KitRunner();
        checks.due("faults", kit.count(8), 0);
        checks.due("exclusions", kit.count(9), 0);
        checks.due("runs", kit.count(7), 0);
        checks.due("failures of a run", kit.run(3, false), 0);
        checks.due("left out", kit.count(2), 0);
        checks.due("runs", kit.count(7), 1);
    }

    private void faultRange() {
        checks.sentence("Promise 2: A FAULT of the entry point (0 .. 15), SORT 0 .. 4, else REFUSED");
        for (int entry = 0; entry <= 15; entry++) {
            for (int sort = 0; sort <= 4; sort++) {
                checks.due("fault(" + entry + ", " + sort + ", MIN)", new KitRunner().fault(entry, sort, MIN), 1);
                checks.due("fault(" + entry + ", " + sort + ", MAX)", new KitRunner().fault(entry, sort, MAX), 1);
            }
        }
        KitRunner kit = new KitRunner();
        for (int wrong : new int[] {-1, 16, MIN, MAX}) {
            checks.due("fault(" + wrong + ", 0, 0)", kit.fault(wrong, 0, 0), REFUSED);
            checks.due("fault(" + wrong + ", 4, 0)", kit.fault(wrong, 4, 0), REFUSED);
        }
        for (int wrong : new int[] {-1, 5, MIN, MAX}) {
            checks.due("fault(0, " + wrong + ", 0)", kit.fault(0, wrong, 0), REFUSED);
            checks.due("fault(15, " + wrong + ", 0)", kit.fault(15, wrong, 0), REFUSED);
            checks.due("fault(16, " + wrong + ", 0)", kit.fault(16, wrong, 0), REFUSED);
        }
    }

    private void faultRoom() {
        checks.sentence("Promise 2: 4 are there: FULL. Answers how many there are");
        KitRunner kit = new KitRunner();
        for (int round = 0; round < 2; round++) {
            for (int i = 1; i <= 4; i++) {
                checks.due("fault " + i, kit.fault(i, 0, i), i);
            }
            checks.due("fifth", kit.fault(5, 0, 5), FULL);
            checks.due("a refused one beside", kit.fault(5, 5, 5), REFUSED);
            checks.due("sixth", kit.fault(1, 0, 1), FULL);
            kit.clear(0);
        }
    }

    private void excludeRange() {
        checks.sentence("Promise 3: An EXCLUSION (entry 0 .. 15, else REFUSED)");
        for (int entry = 0; entry <= 15; entry++) {
            checks.due("exclude(" + entry + ", MIN)", new KitRunner().exclude(entry, MIN), 1);
            checks.due("exclude(" + entry + ", MAX)", new KitRunner().exclude(entry, MAX), 1);
        }
        KitRunner kit = new KitRunner();
        for (int wrong : new int[] {-1, 16, MIN, MAX}) {
            checks.due("exclude(" + wrong + ", 0)", kit.exclude(wrong, 0), REFUSED);
        }
    }

    private void excludeRoom() {
        checks.sentence("Promise 3: 6 are there: FULL. Answers how many there are");
        KitRunner kit = new KitRunner();
        for (int round = 0; round < 2; round++) {
            for (int i = 1; i <= 6; i++) {
                checks.due("exclusion " + i, kit.exclude(i, i), i);
            }
            checks.due("seventh", kit.exclude(7, 7), FULL);
            checks.due("a refused one beside", kit.exclude(16, 7), REFUSED);
            checks.due("eighth", kit.exclude(1, 1), FULL);
            kit.clear(1);
        }
    }

    private void clearRange() {
        checks.sentence("Promise 4: Takes all FAULTS (0), EXCLUSIONS (1) or both (2) away: DONE; else REFUSED");
        int[][] rows = {
            {-1, REFUSED, 2, 1}, {0, 0, 0, 1}, {1, 0, 2, 0}, {2, 0, 0, 0}, {3, REFUSED, 2, 1},
            {MIN, REFUSED, 2, 1}, {MAX, REFUSED, 2, 1},
        };
        for (int[] row : rows) {
            KitRunner kit = new KitRunner();
            kit.fault(0, 0, 0);
            kit.fault(1, 0, 0);
            kit.exclude(0, 0);
            checks.due("clear(" + row[0] + ")", kit.clear(row[0]), row[1]);
            checks.due("faults after clear(" + row[0] + ")", kit.count(8), row[2]);
            checks.due("exclusions after clear(" + row[0] + ")", kit.count(9), row[3]);
        }
        for (int what = 0; what <= 2; what++) {
            checks.due("clear(" + what + ") of nothing", new KitRunner().clear(what), 0);
        }
    }

    private void enableRange() {
        checks.sentence("Promise 5: ENABLES just the entry points of the mask (0 .. 65535, else REFUSED): DONE");
        int[] masks = {0, 1, 32768, 65534, 65535};
        for (int mask : masks) {
            KitRunner kit = new KitRunner();
            checks.due("enable(" + mask + ")", kit.enable(mask), 0);
            kit.run(1, false);
            for (int entry = 0; entry < 16; entry++) {
                checks.due("enable(" + mask + "): entry point " + entry + " was run", kit.ledger(entry) > 0 ? 1 : 0,
                    mask >> entry & 1);
            }
        }
        for (int wrong : new int[] {-1, 65536, -65536, MIN, MAX}) {
            checks.due("enable(" + wrong + ")", new KitRunner().enable(wrong), REFUSED);
        }
    }

    private static long packed(String eight) {
        long name = 0;
        for (int i = 0; i < eight.length(); i++) {
            name = name << 8 | eight.charAt(i);
        }
        return name;
    }

    private void findNames() {
        checks.sentence("Promise 6: the name in the eight bytes (highest first, those that are 0 left out)");
        String[] names = "add sub mul div rem shl shr ushr byte char at cell size cast text cmp".split(" ");
        KitRunner kit = new KitRunner();
        for (int entry = 0; entry < 16; entry++) {
            int room = 8 - names[entry].length();
            long lowest = packed(names[entry]);
            checks.due(names[entry] + " in the lowest bytes", kit.find(lowest), entry);
            checks.due(names[entry] + " in the highest bytes", kit.find(lowest << 8 * room), entry);
            String apart = names[entry].charAt(0) + "\0".repeat(room) + names[entry].substring(1);
            checks.due(names[entry] + " with all zeros within", kit.find(packed(apart)), entry);
        }
        checks.due("lowest first", kit.find(packed("bus")), REFUSED);
        checks.due("lowest first", kit.find(packed("ta")), REFUSED);
    }

    private void findNone() {
        checks.sentence("Promise 6: REFUSED if there is none");
        KitRunner kit = new KitRunner();
        checks.due("empty", kit.find(0), REFUSED);
        checks.due("all bits", kit.find(-1), REFUSED);
        checks.due("least", kit.find(Long.MIN_VALUE), REFUSED);
        checks.due("greatest", kit.find(Long.MAX_VALUE), REFUSED);
        String[] wrong = {
            "a", "ad", "addd", "add ", " add", "Add", "ADD", "usr", "shrr", "ushrushr", "subadd", "addadd",
            "cmp\1", "\1cmp", "\200at", "at\200", "kit", "xxxxxadd", "addxxxxx",
        };
        for (String name : wrong) {
            checks.due("find " + name, kit.find(packed(name)), REFUSED);
        }
    }

    private void outcomeRange() {
        checks.sentence("Promise 7: for the entry point (0 .. 15, else NONE), any a and b");
        KitRunner kit = new KitRunner();
        for (int wrong : new int[] {-1, 16, MIN, MAX}) {
            checks.due("oracle of " + wrong, kit.outcome(wrong, 1, 1, false), NONE);
            checks.due("machine of " + wrong, kit.outcome(wrong, 1, 1, true), NONE);
        }
        checks.due("of 0", kit.outcome(0, MIN, MAX, true), -1);
        checks.due("of 15", kit.outcome(15, MIN, MAX, true), -1);
    }

    private void runRange() {
        checks.sentence("Promise 8: A RUN with a BOUND 1 .. 3 (else REFUSED). Answers how many FAILURES there were");
        KitRunner kit = new KitRunner();
        kit.fault(3, 2, 5);
        int[] due = {REFUSED, REFUSED, 3, 6, 12, REFUSED};
        for (int bound = -1; bound <= 4; bound++) {
            checks.due("run(" + bound + ", false)", kit.run(bound, false), due[bound + 1]);
            checks.due("run(" + bound + ", true)", kit.run(bound, true), due[bound + 1]);
        }
        for (int wrong : new int[] {MIN, MAX}) {
            checks.due("run(" + wrong + ", false)", kit.run(wrong, false), REFUSED);
            checks.due("run(" + wrong + ", true)", kit.run(wrong, true), REFUSED);
        }
        checks.due("runs", kit.count(7), 6);
        kit.clear(0);
        checks.due("without failures", kit.run(3, false), 0);
    }

    /** A kit with three failures kept, the divisions by 0. */
    private static KitRunner withThreeFailures() {
        KitRunner kit = new KitRunner();
        kit.fault(3, 2, 5);
        kit.run(1, false);
        return kit;
    }

    private void failureRange() {
        checks.sentence("Promise 9: Of FAILURE i (from 0, of those kept): what 0 .. 4. NONE");
        KitRunner kit = withThreeFailures();
        long[][] rows = {{3, 0, 0, 10000000000L, 5}, {3, 1, 0, 10000000000L, 5}, {3, -1, 0, 10000000000L, 5}};
        for (int i = -1; i <= 3; i++) {
            for (int what = -1; what <= 5; what++) {
                boolean there = i >= 0 && i < 3 && what >= 0 && what < 5;
                checks.due("failure(" + i + ", " + what + ")", kit.failure(i, what), there ? rows[i][what] : NONE);
            }
        }
        for (int wrong : new int[] {12, MIN, MAX}) {
            checks.due("failure(" + wrong + ", 0)", kit.failure(wrong, 0), NONE);
            checks.due("failure(0, " + wrong + ")", kit.failure(0, wrong), NONE);
        }
        checks.due("before a run", new KitRunner().failure(0, 0), NONE);
        kit.clear(0);
        kit.run(1, false);
        checks.due("after a run without failures", kit.failure(0, 0), NONE);
    }

    private void shrinkRange() {
        checks.sentence("Promise 10: a (what 0) and b (1) at the end, STEPS (2). NONE");
        KitRunner kit = withThreeFailures();
        long[][] rows = {{0, 0, 0}, {0, 0, 1}, {0, 0, 1}};
        for (int i = -1; i <= 3; i++) {
            for (int what = -1; what <= 3; what++) {
                boolean there = i >= 0 && i < 3 && what >= 0 && what < 3;
                checks.due("shrink(" + i + ", " + what + ")", kit.shrink(i, what), there ? rows[i][what] : NONE);
            }
        }
        for (int wrong : new int[] {12, MIN, MAX}) {
            checks.due("shrink(" + wrong + ", 0)", kit.shrink(wrong, 0), NONE);
            checks.due("shrink(0, " + wrong + ")", kit.shrink(0, wrong), NONE);
        }
        checks.due("before a run", new KitRunner().shrink(0, 0), NONE);
        kit.fault(14, 2, 0);
        kit.run(3, false);
        checks.due("the last one kept", kit.shrink(11, 2), 1);
        checks.due("one counted, but not kept", kit.shrink(12, 2), NONE);
        kit.clear(0);
        kit.run(1, false);
        checks.due("after a run without failures", kit.shrink(0, 2), NONE);
    }

    private void shrinkNoFailureAnyMore() {
        checks.sentence("Promise 10: if that isn't one any more there is no STEP");
        KitRunner kit = withThreeFailures();
        kit.clear(0);
        checks.due("a", kit.shrink(2, 0), -1);
        checks.due("b", kit.shrink(2, 1), 0);
        checks.due("steps", kit.shrink(2, 2), 0);
        // (0,0) is a failure again, but (-1,0), where it would start, is not.
        kit.enable(1);
        kit.fault(0, 0, -1);
        kit.run(1, false);
        kit.clear(0);
        kit.fault(0, 0, 0);
        checks.due("a", kit.shrink(0, 0), -1);
        checks.due("b", kit.shrink(0, 1), 0);
        checks.due("steps", kit.shrink(0, 2), 0);
    }

    private void ledgerRange() {
        checks.sentence("Promise 11: THE LEDGER of the entry point in the latest RUN, 0 if there was none; REFUSED");
        KitRunner kit = new KitRunner();
        for (int entry = 0; entry <= 15; entry++) {
            checks.due("ledger(" + entry + ") before a run", kit.ledger(entry), 0);
        }
        for (int wrong : new int[] {-1, 16, MIN, MAX}) {
            checks.due("ledger(" + wrong + ") before a run", kit.ledger(wrong), REFUSED);
        }
        kit.run(1, false);
        checks.due("ledger(0)", kit.ledger(0), 7);
        checks.due("ledger(15)", kit.ledger(15), 7);
        for (int wrong : new int[] {-1, 16, MIN, MAX}) {
            checks.due("ledger(" + wrong + ")", kit.ledger(wrong), REFUSED);
        }
    }

    private void letterRange() {
        checks.sentence("Promise 12: Character i of THE REPORT, 0 behind its end or below 0");
        KitRunner kit = new KitRunner();
        kit.enable(1 << 10);
        kit.run(1, false);
        String due = "at 9 0\nPASS\n";
        for (int i = 0; i < due.length(); i++) {
            checks.due("letter(" + i + ")", kit.letter(i), due.charAt(i));
        }
        for (int outside : new int[] {-1, -12, 12, 13, 255, 256, MIN, MAX}) {
            checks.due("letter(" + outside + ")", kit.letter(outside), 0);
        }
    }

    private void countRange() {
        checks.sentence("Promise 13: another what: REFUSED");
        KitRunner kit = new KitRunner();
        kit.fault(3, 2, 5);
        kit.exclude(4, 0);
        kit.enable(1 << 3 | 1 << 4);
        kit.run(1, false);
        int[] due = {REFUSED, 13, 3, 5, 19, 4, 21, 1, 1, 1, 1, REFUSED};
        for (int what = -1; what <= 10; what++) {
            checks.due("count(" + what + ")", kit.count(what), due[what + 1]);
        }
        checks.due("count(MIN)", kit.count(MIN), REFUSED);
        checks.due("count(MAX)", kit.count(MAX), REFUSED);
    }

    private void countWithoutARun() {
        checks.sentence("Promise 13: Of the latest RUN, 0 if there was none");
        KitRunner kit = new KitRunner();
        kit.fault(0, 4, MIN);
        kit.exclude(1, 0);
        kit.run(0, false);
        for (int what = 0; what <= 7; what++) {
            checks.due("count(" + what + ")", kit.count(what), 0);
        }
    }

    private void countLeftOut() {
        checks.sentence("Promise 13: cases left out by EXCLUSIONS (2)");
        KitRunner kit = new KitRunner();
        kit.enable(1);
        kit.run(1, true);
        checks.due("none: a case that PAIRS don't need is not left out by an exclusion", kit.count(2), 0);
        kit.exclude(1, 0);
        kit.run(1, false);
        checks.due("none of the enabled entry point", kit.count(2), 0);
        kit.exclude(0, 0);
        kit.exclude(0, 1);
        kit.run(1, false);
        checks.due("each once, with two exclusions that meet", kit.count(2), 8);
        kit.exclude(0, -1);
        kit.run(1, true);
        checks.due("all", kit.count(2), 9);
        kit.clear(1);
        checks.due("of the latest run still", kit.count(2), 9);
        kit.run(1, false);
        checks.due("none again", kit.count(2), 0);
    }

    private void countStatus() {
        checks.sentence("Promise 13: its status: 0, or 1 if there were FAILURES (6)");
        KitRunner kit = new KitRunner();
        kit.run(1, false);
        checks.due("no failure", kit.count(6), 0);
        kit.fault(13, 0, 1);
        checks.due("a fault alone", kit.count(6), 0);
        checks.due("one failure", kit.run(1, false), 1);
        checks.due("status with one", kit.count(6), 1);
        kit.fault(14, 2, 0);
        kit.fault(0, 4, MIN);
        checks.due("more than are kept", kit.run(3, false), 1 + 78 + 140);
        checks.due("status with them", kit.count(6), 1);
        kit.clear(0);
        checks.due("of the latest run still", kit.count(6), 1);
        kit.run(3, false);
        checks.due("no failure again", kit.count(6), 0);
    }

    private void countRuns() {
        checks.sentence("Promise 13: RUNS so far (7)");
        KitRunner kit = new KitRunner();
        kit.run(0, false);
        checks.due("none", kit.count(7), 0);
        kit.run(1, false);
        kit.run(4, false);
        kit.enable(0);
        kit.run(3, true);
        checks.due("two, one of them of nothing", kit.count(7), 2);
        kit.clear(2);
        kit.outcome(0, 0, 0, true);
        checks.due("two still", kit.count(7), 2);
    }
}
