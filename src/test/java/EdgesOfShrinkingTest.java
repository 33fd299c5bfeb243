/** The edges that the sentences on SHRINKING (Terms) name. */
public final class EdgesOfShrinkingTest {
    private static final int MIN = Checks.MIN;
    private static final int MAX = Checks.MAX;

    private final Checks checks = new Checks();

    public static void main(String[] args) {
        EdgesOfShrinkingTest test = new EdgesOfShrinkingTest();
        test.nothingStandsBefore();
        test.goesToTheFirst();
        test.looksAtAllBefore();
        test.takesBWhenAStays();
        test.goesAgainAndAgain();
        test.endsWhenNeitherGoes();
        test.takesFaultsAsTheyAre();
        test.countsNoExclusions();
        test.checks.end();
    }

    private void shrunk(KitRunner kit, int i, long a, long b, long steps) {
        checks.due("shrink(" + i + ", 0)", kit.shrink(i, 0), a);
        checks.due("shrink(" + i + ", 1)", kit.shrink(i, 1), b);
        checks.due("shrink(" + i + ", 2)", kit.shrink(i, 2), steps);
    }

    private void was(KitRunner kit, int i, long a, long b) {
        checks.due("failure(" + i + ", 1)", kit.failure(i, 1), a);
        checks.due("failure(" + i + ", 2)", kit.failure(i, 2), b);
    }

    private static KitRunner enabled(int entry) {
        KitRunner kit = new KitRunner();
        kit.enable(1 << entry);
        return kit;
    }

    private void nothingStandsBefore() {
        checks.sentence("of the numbers that stand before a in the greatest LATTICE: there are none");
        KitRunner kit = enabled(0);
        kit.fault(0, 4, MIN);
        kit.run(1, false);
        was(kit, 0, 0, 0);
        shrunk(kit, 0, 0, 0, 0);
        was(kit, 1, 0, 1);
        shrunk(kit, 1, 0, 0, 1);
        was(kit, 3, 1, 0);
        shrunk(kit, 3, 0, 0, 1);
    }

    private void goesToTheFirst() {
        checks.sentence("the first one with which (and the same b) there is a FAILURE takes its place");
        KitRunner kit = enabled(9);
        // char gives above 0 for 1, -1, 2, MAX, ...: not for 0.
        kit.fault(9, 4, 0);
        kit.exclude(9, 0);
        kit.exclude(9, 1);
        kit.run(1, false);
        was(kit, 0, -1, -1);
        shrunk(kit, 0, 1, 0, 2);
    }

    private void looksAtAllBefore() {
        checks.sentence("of the numbers that stand before a: the last of them, and none behind it");
        KitRunner kit = enabled(13);
        // Only (128,128) and (65536,65536), the last two of the lattice.
        kit.fault(13, 4, 127);
        kit.exclude(13, MAX);
        kit.run(3, false);
        was(kit, 0, 128, 128);
        was(kit, 1, 65536, 65536);
        shrunk(kit, 0, 128, 128, 0);
        shrunk(kit, 1, 65536, 65536, 0);
        kit = enabled(8);
        kit.fault(8, 0, 128);
        kit.fault(8, 0, 65536);
        for (int n : new int[] {0, 1, -1, 2, MIN, 128}) {
            kit.exclude(8, n);
        }
        kit.run(3, false);
        was(kit, 0, 65536, MAX);
        // 128 is the one that stands just before 65536.
        shrunk(kit, 0, 128, 0, 2);
    }

    private void takesBWhenAStays() {
        checks.sentence("when there is none, the same for b with this a");
        KitRunner kit = enabled(13);
        kit.fault(13, 2, 0);
        kit.run(1, false);
        // A failure is where a is not b.
        was(kit, 0, 0, 1);
        shrunk(kit, 0, 0, 1, 0);
        was(kit, 1, 0, -1);
        shrunk(kit, 1, 0, 1, 1);
        was(kit, 2, 1, 0);
        shrunk(kit, 2, 1, 0, 0);
        // a goes first: b first would end at (1,0) with one step.
        was(kit, 3, 1, -1);
        shrunk(kit, 3, 0, 1, 2);
    }

    private void goesAgainAndAgain() {
        checks.sentence("again and again; until neither goes. Each replacement is a STEP");
        KitRunner kit = enabled(1);
        kit.fault(1, 4, -1);
        for (int n : new int[] {0, 1, -1, 2, MIN, 3}) {
            kit.exclude(1, n);
        }
        kit.run(3, false);
        was(kit, 0, MAX, MAX);
        // MIN - MAX wraps to 1, MIN - 1 to MAX; then 1 - 1, 1 - 0 and 0 - 0.
        shrunk(kit, 0, 0, 0, 5);
    }

    private void endsWhenNeitherGoes() {
        checks.sentence("until neither goes: at once");
        KitRunner kit = enabled(13);
        kit.fault(13, 0, 65536);
        kit.run(3, false);
        was(kit, 0, 65536, 65536);
        shrunk(kit, 0, 65536, 65536, 0);
    }

    private void takesFaultsAsTheyAre() {
        checks.sentence("FAULTS as they are now");
        KitRunner kit = enabled(0);
        kit.fault(0, 0, 2);
        kit.run(2, false);
        was(kit, 3, 2, 2);
        shrunk(kit, 3, 2, 0, 1);
        kit.fault(0, 1, 2);
        shrunk(kit, 3, 0, 2, 1);
        kit.clear(0);
        shrunk(kit, 3, 2, 2, 0);
        kit.fault(0, 1, 2);
        shrunk(kit, 3, 0, 2, 1);
        was(kit, 3, 2, 2);
    }

    private void countsNoExclusions() {
        checks.sentence("EXCLUSIONS don't count here");
        KitRunner kit = enabled(0);
        kit.fault(0, 4, MIN);
        kit.exclude(0, 0);
        kit.run(1, false);
        was(kit, 0, 1, 1);
        shrunk(kit, 0, 0, 0, 2);
        kit.exclude(0, 1);
        shrunk(kit, 0, 0, 0, 2);
        kit.clear(1);
        shrunk(kit, 0, 0, 0, 2);
    }
}
