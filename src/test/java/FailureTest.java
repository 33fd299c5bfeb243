/** Promise 9. */
public final class FailureTest {
    private static final long NONE = KitRunner.NONE;
    private static final long KIND = KitRunner.KIND;

    public static void main(String[] args) {
        Checks checks = new Checks();
        tellsEachInOrder(checks);
        keepsTwelve(checks);
        isNoneElsewhere(checks);
        tellsWhatWasGivenThen(checks);
        hasNumbersOfTheLattice(checks);
        checks.end();
    }

    private static void row(Checks checks, KitRunner kit, int i, long... due) {
        for (int what = 0; what <= 4; what++) {
            checks.due("failure(" + i + ", " + what + ")", kit.failure(i, what), due[what]);
        }
    }

    private static void tellsEachInOrder(Checks checks) {
        KitRunner kit = new KitRunner();
        kit.fault(4, 3, 0);
        kit.fault(1, 1, -1);
        checks.due("run", kit.run(1, false), 6);
        row(checks, kit, 0, 1, 0, -1, 1, KIND);
        row(checks, kit, 1, 1, 1, -1, 2, KIND);
        row(checks, kit, 2, 1, -1, -1, 0, KIND);
        row(checks, kit, 3, 4, 0, 0, KIND, 5 * KIND);
        row(checks, kit, 4, 4, 1, 0, KIND, 5 * KIND);
        row(checks, kit, 5, 4, -1, 0, KIND, 5 * KIND);
        row(checks, kit, 6, NONE, NONE, NONE, NONE, NONE);
    }

    private static void keepsTwelve(Checks checks) {
        KitRunner kit = new KitRunner();
        kit.fault(14, 2, 3);
        checks.due("run", kit.run(2, false), 21);
        row(checks, kit, 0, 14, 0, 0, 5 * KIND, 3);
        row(checks, kit, 11, 14, -1, 2147483647, 5 * KIND, 3);
        row(checks, kit, 12, NONE, NONE, NONE, NONE, NONE);
        kit.clear(0);
        kit.fault(3, 2, 3);
        checks.due("run with twelve", kit.run(3, false), 12);
        row(checks, kit, 11, 3, 65536, 0, KIND, 3);
        row(checks, kit, 12, NONE, NONE, NONE, NONE, NONE);
    }

    private static void isNoneElsewhere(Checks checks) {
        KitRunner kit = new KitRunner();
        checks.due("before a run", kit.failure(0, 0), NONE);
        kit.fault(3, 2, 3);
        kit.run(1, false);
        int[] wrongIndex = {-1, 3, 11, 12, Checks.MIN, Checks.MAX};
        for (int i : wrongIndex) {
            checks.due("failure(" + i + ", 0)", kit.failure(i, 0), NONE);
        }
        int[] wrongWhat = {-1, 5, Checks.MIN, Checks.MAX};
        for (int what : wrongWhat) {
            checks.due("failure(0, " + what + ")", kit.failure(0, what), NONE);
        }
        checks.due("the last one", kit.failure(2, 1), -1);
        kit.clear(0);
        kit.run(1, false);
        checks.due("after a run without failures", kit.failure(0, 0), NONE);
    }

    private static void tellsWhatWasGivenThen(Checks checks) {
        KitRunner kit = new KitRunner();
        kit.fault(0, 0, 1);
        kit.run(1, false);
        kit.clear(0);
        kit.fault(0, 1, 0);
        row(checks, kit, 0, 0, 1, 0, 1, 2);
        kit.run(4, false);
        row(checks, kit, 0, 0, 1, 0, 1, 2);
        kit.run(1, false);
        row(checks, kit, 0, 0, 0, 0, 0, KIND);
    }

    private static void hasNumbersOfTheLattice(Checks checks) {
        int[] lattice = {0, 1, -1, 2, Checks.MIN, Checks.MAX, 3, 31, 32, -2, 128, 65536};
        KitRunner kit = new KitRunner();
        kit.fault(3, 2, 3);
        kit.run(3, false);
        for (int i = 0; i < 12; i++) {
            checks.due("a of failure " + i, kit.failure(i, 1), lattice[i]);
            checks.due("b of failure " + i, kit.failure(i, 2), 0);
        }
        kit.clear(0);
        kit.fault(1, 0, 0);
        kit.run(3, true);
        for (int i = 0; i < 12; i++) {
            checks.due("b of failure " + i, kit.failure(i, 2), lattice[i]);
            checks.due("given for failure " + i, kit.failure(i, 4), -lattice[i] + 1);
        }
    }
}
