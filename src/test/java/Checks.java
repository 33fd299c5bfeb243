/** Counts the answers that are not as due and ends a test with them. */
final class Checks {
    static final int MIN = Integer.MIN_VALUE;
    static final int MAX = Integer.MAX_VALUE;

    private int made = 0;
    private int wrong = 0;
    private int sentences = 0;
    private int madeBeforeSentence = 0;
    private String sentence = "";

    /** What is checked from here on is this sentence of the document. */
    void sentence(String words) {
        endSentence();
        sentences++;
        sentence = words;
        madeBeforeSentence = made;
    }

    void due(String call, long got, long want) {
        made++;
        if (got != want) {
            tellWrong(call, String.valueOf(got), String.valueOf(want));
        }
    }

    void dueText(String call, String got, String want) {
        made++;
        if (!got.equals(want)) {
            tellWrong(call, "[" + got + "]", "[" + want + "]");
        }
    }

    /** The report, read letter by letter up to the length that count tells. */
    static String report(KitRunner kit) {
        StringBuilder text = new StringBuilder();
        int length = kit.count(5);
        for (int i = 0; i < length; i++) {
            text.append((char) kit.letter(i));
        }
        return text.toString();
    }

    /** All that the getters tell of the object, to see that a refused call changes nothing. */
    static String state(KitRunner kit) {
        StringBuilder text = new StringBuilder(report(kit));
        for (int what = 0; what <= 9; what++) {
            text.append(kit.count(what)).append(' ');
        }
        for (int entry = 0; entry < 16; entry++) {
            text.append(kit.ledger(entry)).append(' ');
        }
        for (int i = 0; i < 12; i++) {
            for (int what = 0; what <= 4; what++) {
                text.append(kit.failure(i, what)).append(' ');
            }
            for (int what = 0; what <= 2; what++) {
                text.append(kit.shrink(i, what)).append(' ');
            }
        }
        return text.toString();
    }

    void end() {
        endSentence();
        System.out.println((sentences == 0 ? "" : sentences + " sentences, ") + made + " answers, "
            + wrong + " not as due");
        if (wrong != 0 || made == 0) {
            System.exit(1);
        }
    }

    private void tellWrong(String call, String got, String want) {
        wrong++;
        System.out.println((sentence.isEmpty() ? "" : "\"" + sentence + "\" ") + call + " answered " + got
            + ", due is " + want);
    }

    // A sentence that nothing was held against would pass unseen.
    private void endSentence() {
        if (sentences > 0 && made == madeBeforeSentence) {
            tellWrong("the test", "nothing", "something");
        }
    }
}
