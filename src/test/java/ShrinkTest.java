/** Promise 10. */
public final class ShrinkTest {
    private static final int MIN = Checks.MIN;
    private static final int MAX = Checks.MAX;
    private static final long NONE = KitRunner.NONE;

    public static void main(String[] args) {
        Checks checks = new Checks();
        movesAThenB(checks);
        movesAAgainAfterB(checks);
        movesAFirst(checks);
        takesTheFirstNumber(checks);
        staysWhenNothingGoes(checks);
        staysWhenItIsNoFailureAnyMore(checks);
        takesTheMachineAsItIsNow(checks);
        goesBeyondTheRun(checks);
        isNoneElsewhere(checks);
        changesNothing(checks);
        checks.end();
    }

    private static void row(Checks checks, KitRunner kit, int i, long a, long b, long steps) {
        checks.due("shrink(" + i + ", 0)", kit.shrink(i, 0), a);
        checks.due("shrink(" + i + ", 1)", kit.shrink(i, 1), b);
        checks.due("shrink(" + i + ", 2)", kit.shrink(i, 2), steps);
    }

    private static void movesAThenB(Checks checks) {
        KitRunner kit = new KitRunner();
        kit.fault(14, 2, 0);
        kit.enable(1 << 14);
        kit.run(1, false);
        // Failures where a is not above b: (0,0) (0,1) (1,1) (-1,0) (-1,1) (-1,-1).
        row(checks, kit, 0, 0, 0, 0);
        row(checks, kit, 1, 0, 0, 1);
        row(checks, kit, 2, 0, 0, 2);
        row(checks, kit, 3, 0, 0, 1);
        row(checks, kit, 4, 0, 0, 2);
    }

    private static void movesAAgainAfterB(Checks checks) {
        KitRunner kit = new KitRunner();
        kit.fault(14, 2, 0);
        kit.enable(1 << 14);
        kit.run(1, false);
        checks.due("a of failure 5", kit.failure(5, 1), -1);
        checks.due("b of failure 5", kit.failure(5, 2), -1);
        // 0 and 1 are above -1, so b goes first: (-1,0), and then a: (0,0).
        row(checks, kit, 5, 0, 0, 2);
    }

    private static void movesAFirst(Checks checks) {
        KitRunner kit = new KitRunner();
        kit.fault(13, 2, 0);
        kit.run(1, false);
        // Failures where a is not b: (0,1) (0,-1) (1,0) (1,-1) (-1,0) (-1,1).
        row(checks, kit, 0, 0, 1, 0);
        row(checks, kit, 1, 0, 1, 1);
        row(checks, kit, 2, 1, 0, 0);
        // With b first this one would end at (1,0).
        row(checks, kit, 3, 0, 1, 2);
        row(checks, kit, 4, 1, 0, 1);
        row(checks, kit, 5, 0, 1, 1);
    }

    private static void takesTheFirstNumber(Checks checks) {
        KitRunner kit = new KitRunner();
        kit.fault(1, 4, 100);
        kit.exclude(1, 0);
        kit.exclude(1, 1);
        kit.exclude(1, -1);
        kit.exclude(1, 2);
        kit.enable(2);
        kit.run(3, false);
        checks.due("a of failure 0", kit.failure(0, 1), MIN);
        checks.due("b of failure 0", kit.failure(0, 2), 3);
        // No number before MIN is above 103; of those before 3, MIN - 1 is the first that wraps; then no a with 1.
        row(checks, kit, 0, MIN, 1, 1);
    }

    private static void staysWhenNothingGoes(Checks checks) {
        KitRunner kit = new KitRunner();
        kit.fault(0, 0, 0);
        kit.run(1, false);
        row(checks, kit, 0, 0, 0, 0);
        row(checks, kit, 2, 0, 0, 1);
        kit.clear(0);
        kit.fault(13, 0, MAX);
        kit.run(3, false);
        checks.due("failures", kit.count(1), 1);
        row(checks, kit, 0, MAX, MAX, 0);
    }

    private static void staysWhenItIsNoFailureAnyMore(Checks checks) {
        KitRunner kit = new KitRunner();
        kit.fault(0, 0, 65536);
        kit.run(3, false);
        row(checks, kit, 11, 65536, 0, 1);
        kit.clear(0);
        row(checks, kit, 11, 65536, 65536, 0);
        // A fault that applies to smaller numbers, but not to this failure.
        kit.fault(0, 0, 0);
        row(checks, kit, 11, 65536, 65536, 0);
        kit.fault(0, 1, 0);
        row(checks, kit, 11, 65536, 65536, 0);
        row(checks, kit, 0, 0, 0, 1);
    }

    private static void takesTheMachineAsItIsNow(Checks checks) {
        KitRunner kit = new KitRunner();
        kit.fault(0, 0, 2);
        kit.run(2, false);
        row(checks, kit, 5, 2, 0, 1);
        kit.clear(0);
        kit.fault(0, 1, MAX);
        row(checks, kit, 5, 0, MAX, 1);
        row(checks, kit, 4, 2, MIN, 0);
    }

    private static void goesBeyondTheRun(Checks checks) {
        KitRunner kit = new KitRunner();
        kit.fault(2, 4, 100);
        kit.enable(4);
        kit.exclude(2, 1);
        kit.run(3, false);
        checks.due("a", kit.failure(0, 1), 2);
        checks.due("b", kit.failure(0, 2), 128);
        // Numbers that are excluded count here, and so does an entry point that is not enabled any more.
        kit.enable(0);
        row(checks, kit, 0, 1, MAX, 2);
        kit.exclude(2, MAX);
        row(checks, kit, 0, 1, MAX, 2);
    }

    private static void isNoneElsewhere(Checks checks) {
        KitRunner kit = new KitRunner();
        checks.due("before a run", kit.shrink(0, 0), NONE);
        kit.fault(3, 2, 3);
        kit.run(1, false);
        int[] wrongIndex = {-1, 3, 12, MIN, MAX};
        for (int i : wrongIndex) {
            row(checks, kit, i, NONE, NONE, NONE);
        }
        int[] wrongWhat = {-1, 3, MIN, MAX};
        for (int what : wrongWhat) {
            checks.due("shrink(0, " + what + ")", kit.shrink(0, what), NONE);
        }
        row(checks, kit, 2, 0, 0, 1);
        kit.fault(14, 2, 3);
        kit.run(3, false);
        row(checks, kit, 12, NONE, NONE, NONE);
        checks.due("the last one kept", kit.shrink(11, 2), 1);
    }

    private static void changesNothing(Checks checks) {
        KitRunner kit = new KitRunner();
        kit.fault(2, 4, 100);
        kit.enable(4);
        kit.run(3, false);
        String before = Checks.state(kit);
        for (int i = 0; i < 12; i++) {
            kit.shrink(i, 0);
        }
        checks.dueText("state", Checks.state(kit), before);
        checks.due("failure 4 has its own a still", kit.failure(4, 1), 2);
    }
}
