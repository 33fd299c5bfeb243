import java.util.function.ToLongFunction;

/** "A refused call changes nothing" (Terms), for each call by itself, and so for those that answer FULL or NONE. */
public final class EdgesOfRefusalTest {
    private static final int MIN = Checks.MIN;
    private static final int MAX = Checks.MAX;

    private final Checks checks = new Checks();

    public static void main(String[] args) {
        EdgesOfRefusalTest test = new EdgesOfRefusalTest();
        test.fault();
        test.exclude();
        test.clear();
        test.enable();
        test.find();
        test.outcome();
        test.run();
        test.failure();
        test.shrink();
        test.ledger();
        test.letter();
        test.count();
        test.checks.end();
    }

    /** A kit with a run behind it, and with settings that a next run shows. */
    private static KitRunner used() {
        KitRunner kit = new KitRunner();
        kit.enable(1 | 1 << 3);
        kit.fault(0, 0, 1);
        kit.exclude(0, -1);
        kit.run(1, false);
        kit.clear(2);
        kit.fault(3, 2, 9);
        kit.fault(0, 1, 1);
        kit.exclude(3, 1);
        return kit;
    }

    /** A kit without room for a fault or an exclusion, each of which a next run shows. */
    private static KitRunner full() {
        KitRunner kit = new KitRunner();
        kit.enable(1 | 1 << 3);
        kit.fault(0, 0, 1);
        kit.fault(0, 1, 1);
        kit.fault(3, 2, 9);
        kit.fault(3, 0, 1);
        for (int n = 1; n <= 3; n++) {
            kit.exclude(0, n);
            kit.exclude(3, -n);
        }
        kit.run(2, true);
        return kit;
    }

    private void changesNothing(String name, ToLongFunction<KitRunner> call, long due) {
        changesNothing("new: " + name, new KitRunner(), new KitRunner(), call, due);
        changesNothing("used: " + name, used(), used(), call, due);
    }

    /** One kit gets the call and the other does not: all that they tell stays the same, after a next run too. */
    private void changesNothing(String name, KitRunner with, KitRunner without, ToLongFunction<KitRunner> call,
            long due) {
        checks.due(name, call.applyAsLong(with), due);
        checks.dueText(name + ", then all getters", Checks.state(with), Checks.state(without));
        checks.due(name + ", then a run", with.run(2, false), without.run(2, false));
        checks.dueText(name + ", then all getters", Checks.state(with), Checks.state(without));
    }

    private void fault() {
        checks.sentence("A refused call changes nothing: fault");
        for (int wrong : new int[] {-1, 16, MIN, MAX}) {
            changesNothing("fault(" + wrong + ", 0, 0)", kit -> kit.fault(wrong, 0, 0), -1);
        }
        for (int wrong : new int[] {-1, 5, MIN, MAX}) {
            changesNothing("fault(0, " + wrong + ", 0)", kit -> kit.fault(0, wrong, 0), -1);
        }
        changesNothing("full: fault(0, 4, MIN)", full(), full(), kit -> kit.fault(0, 4, MIN), -2);
        changesNothing("full: fault(3, 3, 0)", full(), full(), kit -> kit.fault(3, 3, 0), -2);
        changesNothing("full: fault(16, 0, 0)", full(), full(), kit -> kit.fault(16, 0, 0), -1);
    }

    private void exclude() {
        checks.sentence("A refused call changes nothing: exclude");
        for (int wrong : new int[] {-1, 16, MIN, MAX}) {
            changesNothing("exclude(" + wrong + ", 0)", kit -> kit.exclude(wrong, 0), -1);
        }
        changesNothing("full: exclude(0, 0)", full(), full(), kit -> kit.exclude(0, 0), -2);
        changesNothing("full: exclude(3, 0)", full(), full(), kit -> kit.exclude(3, 0), -2);
        changesNothing("full: exclude(-1, 0)", full(), full(), kit -> kit.exclude(-1, 0), -1);
    }

    private void clear() {
        checks.sentence("A refused call changes nothing: clear");
        for (int wrong : new int[] {-1, 3, MIN, MAX}) {
            changesNothing("clear(" + wrong + ")", kit -> kit.clear(wrong), -1);
        }
        changesNothing("full: clear(3)", full(), full(), kit -> kit.clear(3), -1);
    }

    private void enable() {
        checks.sentence("A refused call changes nothing: enable");
        for (int wrong : new int[] {-1, 65536, 65537, MIN, MAX}) {
            changesNothing("used: enable(" + wrong + ")", used(), used(), kit -> kit.enable(wrong), -1);
        }
        // All are enabled at first, so that the run of a new kit shows a mask that was taken all the same.
        KitRunner kit = new KitRunner();
        checks.due("new: enable(65536)", kit.enable(65536), -1);
        kit.run(1, false);
        checks.due("cases", kit.count(0), 144);
    }

    private void find() {
        checks.sentence("A refused call changes nothing: find");
        changesNothing("find(0)", kit -> kit.find(0), -1);
        changesNothing("find(-1)", kit -> kit.find(-1), -1);
    }

    private void outcome() {
        checks.sentence("A refused call changes nothing: outcome");
        for (int wrong : new int[] {-1, 16, MIN, MAX}) {
            changesNothing("outcome(" + wrong + ", 1, 1, true)", kit -> kit.outcome(wrong, 1, 1, true), KitRunner.NONE);
        }
    }

    private void run() {
        checks.sentence("A refused call changes nothing: run");
        for (int wrong : new int[] {0, 4, -1, MIN, MAX}) {
            changesNothing("run(" + wrong + ", false)", kit -> kit.run(wrong, false), -1);
            changesNothing("run(" + wrong + ", true)", kit -> kit.run(wrong, true), -1);
        }
    }

    private void failure() {
        checks.sentence("A refused call changes nothing: failure");
        for (int wrong : new int[] {-1, 12, MIN, MAX}) {
            changesNothing("failure(" + wrong + ", 0)", kit -> kit.failure(wrong, 0), KitRunner.NONE);
        }
        for (int wrong : new int[] {-1, 5, MIN, MAX}) {
            changesNothing("failure(0, " + wrong + ")", kit -> kit.failure(0, wrong), KitRunner.NONE);
        }
    }

    private void shrink() {
        checks.sentence("A refused call changes nothing: shrink");
        for (int wrong : new int[] {-1, 12, MIN, MAX}) {
            changesNothing("shrink(" + wrong + ", 0)", kit -> kit.shrink(wrong, 0), KitRunner.NONE);
        }
        for (int wrong : new int[] {-1, 3, MIN, MAX}) {
            changesNothing("shrink(0, " + wrong + ")", kit -> kit.shrink(0, wrong), KitRunner.NONE);
        }
    }

    private void ledger() {
        checks.sentence("A refused call changes nothing: ledger");
        for (int wrong : new int[] {-1, 16, MIN, MAX}) {
            changesNothing("ledger(" + wrong + ")", kit -> kit.ledger(wrong), -1);
        }
    }

    private void letter() {
        checks.sentence("A refused call changes nothing: letter");
        for (int wrong : new int[] {-1, 1000, MIN, MAX}) {
            changesNothing("letter(" + wrong + ")", kit -> kit.letter(wrong), 0);
        }
    }

    private void count() {
        checks.sentence("A refused call changes nothing: count");
        for (int wrong : new int[] {-1, 10, MIN, MAX}) {
            changesNothing("count(" + wrong + ")", kit -> kit.count(wrong), -1);
        }
    }
}
