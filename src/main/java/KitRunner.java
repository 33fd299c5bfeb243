import java.util.Arrays;

/** A kit that tests a machine of sixteen entry points against an oracle. */
public final class KitRunner {
    public static final int DONE = 0;
    public static final int REFUSED = -1;
    public static final int FULL = -2;
    public static final long NONE = -1000000000000L;
    public static final long KIND = 10000000000L;

    private static final int ENTRIES = 16;
    private static final int SORTS = 5;
    private static final int ALL_ENABLED = 65535;

    private static final int FAULTS_ROOM = 4;
    private static final int EXCLUSIONS_ROOM = 6;
    private static final int FAILURES_ROOM = 12;
    // Sixteen lines of at most 13 characters and a last one of 5 are 213.
    private static final int REPORT_ROOM = 256;

    // The greatest lattice: those of the smaller bounds are its beginnings.
    private static final int[] LATTICE = {
        0, 1, -1, 2, -2147483648, 2147483647, 3, 31, 32, -2, 128, 65536
    };
    private static final int LATTICE_SIZE = 12;
    private static final int LEAST_BOUND = 1;
    private static final int GREATEST_BOUND = 3;

    private final Machine machine;
    private final Exclusions exclusions;
    private final PairBook pairBook;
    private final Tally tally;
    private final FailureList failures;
    private final Report report;
    private final Shrinker shrinker;
    private int enabled;
    private int runs;

    public KitRunner() {
        machine = new Machine();
        exclusions = new Exclusions();
        pairBook = new PairBook();
        tally = new Tally();
        failures = new FailureList();
        report = new Report();
        shrinker = new Shrinker();
        enabled = ALL_ENABLED;
        runs = 0;
    }

    public int fault(int entry, int sort, int n) {
        if (!isEntry(entry) || sort < 0 || sort >= SORTS) {
            return REFUSED;
        }
        return machine.addFault(entry, sort, n) ? machine.faultsHeld() : FULL;
    }

    public int exclude(int entry, int n) {
        if (!isEntry(entry)) {
            return REFUSED;
        }
        return exclusions.add(entry, n) ? exclusions.held() : FULL;
    }

    public int clear(int what) {
        if (what < 0 || what > 2) {
            return REFUSED;
        }
        if (what != 1) {
            machine.removeFaults();
        }
        if (what != 0) {
            exclusions.removeAll();
        }
        return DONE;
    }

    public int enable(int mask) {
        if (mask < 0 || mask > ALL_ENABLED) {
            return REFUSED;
        }
        enabled = mask;
        return DONE;
    }

    public int find(long name) {
        long packed = withoutZeroBytes(name);
        for (int entry = 0; entry < ENTRIES; entry++) {
            if (packedText(EntryPoints.nameOf(entry)) == packed) {
                return entry;
            }
        }
        return REFUSED;
    }

    public long outcome(int entry, int a, int b, boolean machine) {
        if (!isEntry(entry)) {
            return NONE;
        }
        return machine ? this.machine.give(entry, a, b) : EntryPoints.foretell(entry, a, b);
    }

    public int run(int bound, boolean pairs) {
        if (bound < LEAST_BOUND || bound > GREATEST_BOUND) {
            return REFUSED;
        }
        forgetLatestRun();
        for (int entry = 0; entry < ENTRIES; entry++) {
            if ((enabled >> entry & 1) == 1) {
                runEntry(entry, latticeSize(bound), pairs);
            }
        }
        writeReport();
        runs++;
        return tally.failedInAll();
    }

    public long failure(int i, int what) {
        if (i < 0 || i >= failures.held()) {
            return NONE;
        }
        switch (what) {
            case 0:
                return failures.entry(i);
            case 1:
                return LATTICE[failures.placeOfA(i)];
            case 2:
                return LATTICE[failures.placeOfB(i)];
            case 3:
                return failures.foretold(i);
            case 4:
                return failures.given(i);
            default:
                return NONE;
        }
    }

    public long shrink(int i, int what) {
        if (i < 0 || i >= failures.held()) {
            return NONE;
        }
        shrinker.reduce(machine, failures.entry(i), failures.placeOfA(i), failures.placeOfB(i));
        switch (what) {
            case 0:
                return shrinker.a();
            case 1:
                return shrinker.b();
            case 2:
                return shrinker.steps();
            default:
                return NONE;
        }
    }

    public int ledger(int entry) {
        return isEntry(entry) ? tally.marks(entry) : REFUSED;
    }

    public int letter(int i) {
        return report.at(i);
    }

    public int count(int what) {
        switch (what) {
            case 0:
                return tally.takenInAll();
            case 1:
                return tally.failedInAll();
            case 2:
                return tally.leftOut();
            case 3:
                return pairBook.held();
            case 4:
                return tally.marksInAll();
            case 5:
                return report.length();
            case 6:
                return tally.failedInAll() > 0 ? 1 : 0;
            case 7:
                return runs;
            case 8:
                return machine.faultsHeld();
            case 9:
                return exclusions.held();
            default:
                return REFUSED;
        }
    }

    private static boolean isEntry(int entry) {
        return entry >= 0 && entry < ENTRIES;
    }

    private static boolean isTrouble(long outcome) {
        return outcome >= KIND;
    }

    private static int latticeSize(int bound) {
        return bound == 1 ? 3 : bound == 2 ? 6 : LATTICE_SIZE;
    }

    private static long withoutZeroBytes(long name) {
        long packed = 0;
        for (int shift = 56; shift >= 0; shift -= 8) {
            long letter = name >>> shift & 255;
            if (letter != 0) {
                packed = packed << 8 | letter;
            }
        }
        return packed;
    }

    private static long packedText(String text) {
        long packed = 0;
        for (int i = 0; i < text.length(); i++) {
            packed = packed << 8 | text.charAt(i);
        }
        return packed;
    }

    private void forgetLatestRun() {
        pairBook.forget();
        tally.forget();
        failures.forget();
        report.forget();
    }

    private void runEntry(int entry, int size, boolean pairs) {
        for (int placeA = 0; placeA < size; placeA++) {
            for (int placeB = 0; placeB < size; placeB++) {
                if (exclusions.leaveOut(entry, LATTICE[placeA], LATTICE[placeB])) {
                    tally.noteLeftOut();
                } else if (pairBook.note(entry, placeA, placeB) || !pairs) {
                    runCase(entry, placeA, placeB);
                }
            }
        }
    }

    private void runCase(int entry, int placeA, int placeB) {
        long foretold = EntryPoints.foretell(entry, LATTICE[placeA], LATTICE[placeB]);
        long given = machine.give(entry, LATTICE[placeA], LATTICE[placeB]);
        tally.noteTaken(entry, given);
        if (given != foretold) {
            tally.noteFailed(entry);
            failures.keep(entry, placeA, placeB, foretold, given);
        }
    }

    private void writeReport() {
        for (int entry = 0; entry < ENTRIES; entry++) {
            if (tally.taken(entry) > 0) {
                report.putText(EntryPoints.nameOf(entry));
                report.put(' ');
                report.putNumber(tally.taken(entry));
                report.put(' ');
                report.putNumber(tally.failed(entry));
                report.put('\n');
            }
        }
        report.putText(tally.failedInAll() > 0 ? "FAIL" : "PASS");
        report.put('\n');
    }

    /** The entry points' names and what the oracle foretells for them. */
    private static final class EntryPoints {
        private static final int ADD = 0;
        private static final int SUB = 1;
        private static final int MUL = 2;
        private static final int DIV = 3;
        private static final int REM = 4;
        private static final int SHL = 5;
        private static final int SHR = 6;
        private static final int USHR = 7;
        private static final int BYTE = 8;
        private static final int CHAR = 9;
        private static final int AT = 10;
        private static final int CELL = 11;
        private static final int SIZE = 12;
        private static final int CAST = 13;
        private static final int TEXT = 14;
        private static final int CMP = 15;

        private static final String KIT = "kit";
        private static final int[] CELLS = {70, 80, 90};
        private static final int CELLS_SIZE = 3;
        private static final int GREATEST_SIZE = 64;

        static String nameOf(int entry) {
            switch (entry) {
                case ADD: return "add";
                case SUB: return "sub";
                case MUL: return "mul";
                case DIV: return "div";
                case REM: return "rem";
                case SHL: return "shl";
                case SHR: return "shr";
                case USHR: return "ushr";
                case BYTE: return "byte";
                case CHAR: return "char";
                case AT: return "at";
                case CELL: return "cell";
                case SIZE: return "size";
                case CAST: return "cast";
                case TEXT: return "text";
                default: return "cmp";
            }
        }

        static long foretell(int entry, int a, int b) {
            switch (entry) {
                case ADD: return a + b;
                case SUB: return a - b;
                case MUL: return a * b;
                case DIV: return b == 0 ? Trouble.ARITHMETIC : a / b;
                case REM: return b == 0 ? Trouble.ARITHMETIC : a % b;
                case SHL: return a << b;
                case SHR: return a >> b;
                case USHR: return a >>> b;
                case BYTE: return (byte) a;
                case CHAR: return (char) a;
                case AT: return a < 0 || a >= KIT.length() ? Trouble.INDEX : KIT.charAt(a);
                case CELL: return b < 0 || b >= CELLS_SIZE ? Trouble.INDEX : CELLS[b];
                case SIZE: return sizeOf(a);
                case CAST: return a == b ? a : Trouble.CAST;
                case TEXT: return a > b ? 4 : Trouble.NULL;
                default: return Integer.compare(a, b);
            }
        }

        private static long sizeOf(int a) {
            if (a < 0) {
                return Trouble.NEGATIVE;
            }
            return a > GREATEST_SIZE ? GREATEST_SIZE : a;
        }
    }

    /** The kinds of trouble, as outcomes tell them. */
    private static final class Trouble {
        private static final long ARITHMETIC = KIND;
        private static final long INDEX = 2 * KIND;
        private static final long NEGATIVE = 3 * KIND;
        private static final long CAST = 4 * KIND;
        private static final long NULL = 5 * KIND;
    }

    /** What is tested: it gives what the oracle foretells, but for its faults. */
    private static final class Machine {
        private final int[] entries;
        private final int[] sorts;
        private final int[] numbers;
        private int held;

        Machine() {
            entries = new int[FAULTS_ROOM];
            sorts = new int[FAULTS_ROOM];
            numbers = new int[FAULTS_ROOM];
            held = 0;
        }

        boolean addFault(int entry, int sort, int n) {
            if (held >= FAULTS_ROOM) {
                return false;
            }
            entries[held] = entry;
            sorts[held] = sort;
            numbers[held] = n;
            held++;
            return true;
        }

        void removeFaults() {
            held = 0;
        }

        int faultsHeld() {
            return held;
        }

        long give(int entry, int a, int b) {
            long foretold = EntryPoints.foretell(entry, a, b);
            for (int i = 0; i < held; i++) {
                if (entries[i] == entry && applies(sorts[i], numbers[i], a, b, foretold)) {
                    return changed(sorts[i], numbers[i], foretold);
                }
            }
            return foretold;
        }

        boolean failsAt(int entry, int placeA, int placeB) {
            int a = LATTICE[placeA];
            int b = LATTICE[placeB];
            return give(entry, a, b) != EntryPoints.foretell(entry, a, b);
        }

        private static boolean applies(int sort, int n, int a, int b, long foretold) {
            boolean trouble = isTrouble(foretold);
            switch (sort) {
                case 0: return !trouble && a == n;
                case 1: return !trouble && b == n;
                case 2: return trouble;
                case 3: return trouble;
                default: return !trouble && foretold > n;
            }
        }

        private static long changed(int sort, int n, long foretold) {
            switch (sort) {
                // A value is an int, so the greatest one wraps.
                case 0: return (int) foretold + 1;
                case 1: return Trouble.ARITHMETIC;
                case 2: return n;
                case 3: return foretold == Trouble.NULL ? Trouble.CAST : Trouble.NULL;
                default: return foretold ^ 1;
            }
        }
    }

    /** The entry points' numbers with which cases are left out. */
    private static final class Exclusions {
        private final int[] entries;
        private final int[] numbers;
        private int held;

        Exclusions() {
            entries = new int[EXCLUSIONS_ROOM];
            numbers = new int[EXCLUSIONS_ROOM];
            held = 0;
        }

        boolean add(int entry, int n) {
            if (held >= EXCLUSIONS_ROOM) {
                return false;
            }
            entries[held] = entry;
            numbers[held] = n;
            held++;
            return true;
        }

        void removeAll() {
            held = 0;
        }

        int held() {
            return held;
        }

        boolean leaveOut(int entry, int a, int b) {
            for (int i = 0; i < held; i++) {
                if (entries[i] == entry && (numbers[i] == a || numbers[i] == b)) {
                    return true;
                }
            }
            return false;
        }
    }

    /** The pairs that the cases taken in a run have; a number is known by its place in the lattice. */
    private static final class PairBook {
        // Each row has a bit for every place of the lattice.
        private final int[] entryWithA;
        private final int[] entryWithB;
        private final int[] aWithB;
        private int held;

        PairBook() {
            entryWithA = new int[ENTRIES];
            entryWithB = new int[ENTRIES];
            aWithB = new int[LATTICE_SIZE];
            held = 0;
        }

        void forget() {
            Arrays.fill(entryWithA, 0);
            Arrays.fill(entryWithB, 0);
            Arrays.fill(aWithB, 0);
            held = 0;
        }

        int held() {
            return held;
        }

        /** Whether the case has a new pair; a case without one leaves the book as it is. */
        boolean note(int entry, int placeA, int placeB) {
            int before = held;
            mark(entryWithA, entry, placeA);
            mark(entryWithB, entry, placeB);
            mark(aWithB, placeA, placeB);
            return held > before;
        }

        private void mark(int[] rows, int row, int place) {
            int bit = 1 << place;
            if ((rows[row] & bit) == 0) {
                rows[row] |= bit;
                held++;
            }
        }
    }

    /** The numbers of a run, and the ledgers of its entry points. */
    private static final class Tally {
        private final int[] taken;
        private final int[] failed;
        private final int[] marks;
        private int leftOut;

        Tally() {
            taken = new int[ENTRIES];
            failed = new int[ENTRIES];
            marks = new int[ENTRIES];
            leftOut = 0;
        }

        void forget() {
            Arrays.fill(taken, 0);
            Arrays.fill(failed, 0);
            Arrays.fill(marks, 0);
            leftOut = 0;
        }

        void noteLeftOut() {
            leftOut++;
        }

        void noteTaken(int entry, long given) {
            taken[entry]++;
            marks[entry] |= markOf(given);
        }

        void noteFailed(int entry) {
            failed[entry]++;
        }

        int leftOut() {
            return leftOut;
        }

        int taken(int entry) {
            return taken[entry];
        }

        int failed(int entry) {
            return failed[entry];
        }

        int marks(int entry) {
            return marks[entry];
        }

        int takenInAll() {
            return sum(taken);
        }

        int failedInAll() {
            return sum(failed);
        }

        int marksInAll() {
            int all = 0;
            for (int entry = 0; entry < ENTRIES; entry++) {
                all += Integer.bitCount(marks[entry]);
            }
            return all;
        }

        private static int sum(int[] row) {
            int all = 0;
            for (int entry = 0; entry < ENTRIES; entry++) {
                all += row[entry];
            }
            return all;
        }

        private static int markOf(long given) {
            if (isTrouble(given)) {
                return 4 << (int) (given / KIND);
            }
            return given < 0 ? 1 : given == 0 ? 2 : 4;
        }
    }

    /** The first failures of a run; a number is known by its place in the lattice. */
    private static final class FailureList {
        private final int[] entries;
        private final int[] placesOfA;
        private final int[] placesOfB;
        private final long[] foretold;
        private final long[] given;
        private int held;

        FailureList() {
            entries = new int[FAILURES_ROOM];
            placesOfA = new int[FAILURES_ROOM];
            placesOfB = new int[FAILURES_ROOM];
            foretold = new long[FAILURES_ROOM];
            given = new long[FAILURES_ROOM];
            held = 0;
        }

        void forget() {
            held = 0;
        }

        int held() {
            return held;
        }

        void keep(int entry, int placeA, int placeB, long wasForetold, long wasGiven) {
            if (held >= FAILURES_ROOM) {
                return;
            }
            entries[held] = entry;
            placesOfA[held] = placeA;
            placesOfB[held] = placeB;
            foretold[held] = wasForetold;
            given[held] = wasGiven;
            held++;
        }

        int entry(int i) {
            return entries[i];
        }

        int placeOfA(int i) {
            return placesOfA[i];
        }

        int placeOfB(int i) {
            return placesOfB[i];
        }

        long foretold(int i) {
            return foretold[i];
        }

        long given(int i) {
            return given[i];
        }
    }

    /** Makes a failure's numbers stand as early in the lattice as they go. */
    private static final class Shrinker {
        // Each step moves a or b to an earlier place, so there are fewer than this.
        private static final int STEPS_BOUND = 2 * LATTICE_SIZE;

        private int placeA;
        private int placeB;
        private int steps;

        Shrinker() {
            placeA = 0;
            placeB = 0;
            steps = 0;
        }

        void reduce(Machine machine, int entry, int fromPlaceA, int fromPlaceB) {
            placeA = fromPlaceA;
            placeB = fromPlaceB;
            steps = 0;
            if (!machine.failsAt(entry, placeA, placeB)) {
                return;
            }
            while (steps < STEPS_BOUND && (moveA(machine, entry) || moveB(machine, entry))) {
                steps++;
            }
        }

        int a() {
            return LATTICE[placeA];
        }

        int b() {
            return LATTICE[placeB];
        }

        int steps() {
            return steps;
        }

        private boolean moveA(Machine machine, int entry) {
            for (int place = 0; place < placeA; place++) {
                if (machine.failsAt(entry, place, placeB)) {
                    placeA = place;
                    return true;
                }
            }
            return false;
        }

        private boolean moveB(Machine machine, int entry) {
            for (int place = 0; place < placeB; place++) {
                if (machine.failsAt(entry, placeA, place)) {
                    placeB = place;
                    return true;
                }
            }
            return false;
        }
    }

    /** The text that a run writes. */
    private static final class Report {
        private final char[] text;
        private int length;

        Report() {
            text = new char[REPORT_ROOM];
            length = 0;
        }

        void forget() {
            length = 0;
        }

        int length() {
            return length;
        }

        int at(int i) {
            return i < 0 || i >= length ? 0 : text[i];
        }

        void put(char letter) {
            if (length < REPORT_ROOM) {
                text[length] = letter;
                length++;
            }
        }

        void putText(String letters) {
            for (int i = 0; i < letters.length(); i++) {
                put(letters.charAt(i));
            }
        }

        /** Writes a number from 0 to 999: an entry point has at most 144 cases. */
        void putNumber(int number) {
            for (int unit = 100; unit >= 1; unit /= 10) {
                if (number >= unit || unit == 1) {
                    put((char) ('0' + number / unit % 10));
                }
            }
        }
    }
}
