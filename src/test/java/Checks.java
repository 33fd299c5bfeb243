/** Counts the answers that are not as due and ends a test with them. */
final class Checks {
    static final int MIN = Integer.MIN_VALUE;
    static final int MAX = Integer.MAX_VALUE;

    private int made = 0;
    private int wrong = 0;

    void due(String call, long got, long want) {
        made++;
        if (got != want) {
            wrong++;
            System.out.println(call + " answered " + got + ", due is " + want);
        }
    }

    void dueText(String call, String got, String want) {
        made++;
        if (!got.equals(want)) {
            wrong++;
            System.out.println(call + " answered [" + got + "], due is [" + want + "]");
        }
    }

    /** The report, read letter by letter up to the length that count tells. */
    static String report(KitRunner kit) {
        StringBuilder text = new StringBuilder();
        for (int i = 0; i < kit.count(5); i++) {
            text.append((char) kit.letter(i));
        }
        return text.toString();
    }

    /** All that the getters tell of the object, to see that a refused call changes nothing. */
    static String state(KitRunner kit) {
        StringBuilder text = new StringBuilder(report(kit));
        for (int what = 0; what <= 9; what++) {
            text.append(kit.count(what)).append(' ');
        }
        for (int entry = 0; entry < 16; entry++) {
            text.append(kit.ledger(entry)).append(' ');
        }
        for (int i = 0; i < 12; i++) {
            for (int what = 0; what <= 4; what++) {
                text.append(kit.failure(i, what)).append(' ');
            }
            for (int what = 0; what <= 2; what++) {
                text.append(kit.shrink(i, what)).append(' ');
            }
        }
        return text.toString();
    }

    void end() {
        System.out.println(made + " answers, " + wrong + " not as due");
        if (wrong != 0 || made == 0) {
            System.exit(1);
        }
    }
}
