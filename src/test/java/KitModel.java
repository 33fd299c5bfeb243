import java.math.BigInteger;
import java.util.ArrayList;
import java.util.HashMap;
import java.util.HashSet;
import java.util.List;
import java.util.Map;
import java.util.Set;
import java.util.TreeSet;

/** A second writing of the document, with other means than the class: what ModelTest holds the class against. */
final class KitModel {
    private static final String[] NAMES =
        "add sub mul div rem shl shr ushr byte char at cell size cast text cmp".split(" ");
    private static final List<Integer> GREATEST =
        List.of(0, 1, -1, 2, -(1 << 31), (1 << 31) - 1, 3, 31, 32, -2, 128, 65536);
    private static final String ARITHMETIC = "1";
    private static final String INDEX = "2";
    private static final String NEGATIVE = "3";
    private static final String CAST = "4";
    private static final String NULL = "5";
    private static final long NONE = -1_000_000_000_000L;

    /** A value, or a kind of trouble where that is not null. */
    private record Result(int value, String kind) {
        static Result of(BigInteger value) {
            return new Result(value.intValue(), null);
        }

        static Result of(long value) {
            return of(BigInteger.valueOf(value));
        }

        static Result trouble(String kind) {
            return new Result(0, kind);
        }

        long told() {
            return kind == null ? value : Long.parseLong(kind + "0000000000");
        }

        String mark() {
            return kind != null ? kind : value < 0 ? "below" : value == 0 ? "zero" : "above";
        }
    }

    private record Fault(int entry, int sort, int n) { }

    private record Exclusion(int entry, int n) { }

    private record Case(int entry, int a, int b) {
        Set<List<Object>> pairs() {
            return Set.of(List.of("ea", entry, a), List.of("eb", entry, b), List.of("ab", a, b));
        }
    }

    private record Failure(Case of, Result foretold, Result given) { }

    private final List<Fault> faults = new ArrayList<>();
    private final List<Exclusion> exclusions = new ArrayList<>();
    private Set<Integer> enabled = entriesOf(65535);
    private int runs = 0;
    private List<Case> taken = new ArrayList<>();
    private List<Failure> failed = new ArrayList<>();
    private Set<List<Object>> pairsHad = new HashSet<>();
    private Map<Integer, Set<String>> ledgers = new HashMap<>();
    private int leftOut = 0;
    private String report = "";

    int fault(int entry, int sort, int n) {
        if (entry < 0 || entry > 15 || sort < 0 || sort > 4) {
            return -1;
        }
        if (faults.size() == 4) {
            return -2;
        }
        faults.add(new Fault(entry, sort, n));
        return faults.size();
    }

    int exclude(int entry, int n) {
        if (entry < 0 || entry > 15) {
            return -1;
        }
        if (exclusions.size() == 6) {
            return -2;
        }
        exclusions.add(new Exclusion(entry, n));
        return exclusions.size();
    }

    int clear(int what) {
        switch (what) {
            case 0 -> faults.clear();
            case 1 -> exclusions.clear();
            case 2 -> {
                faults.clear();
                exclusions.clear();
            }
            default -> {
                return -1;
            }
        }
        return 0;
    }

    int enable(int mask) {
        if (mask < 0 || mask > 65535) {
            return -1;
        }
        enabled = entriesOf(mask);
        return 0;
    }

    int find(long name) {
        StringBuilder text = new StringBuilder();
        for (byte letter : java.nio.ByteBuffer.allocate(8).putLong(name).array()) {
            if (letter != 0) {
                text.append((char) (letter & 0xff));
            }
        }
        return List.of(NAMES).indexOf(text.toString());
    }

    long outcome(int entry, int a, int b, boolean machine) {
        if (entry < 0 || entry > 15) {
            return NONE;
        }
        Case one = new Case(entry, a, b);
        return (machine ? given(one) : foretold(one)).told();
    }

    int run(int bound, boolean pairs) {
        if (bound < 1 || bound > 3) {
            return -1;
        }
        taken = new ArrayList<>();
        failed = new ArrayList<>();
        pairsHad = new HashSet<>();
        ledgers = new HashMap<>();
        leftOut = 0;
        runs++;
        for (Case one : casesOf(bound)) {
            if (exclusions.stream().anyMatch(x -> x.entry == one.entry && (x.n == one.a || x.n == one.b))) {
                leftOut++;
            } else if (!pairs || !pairsHad.containsAll(one.pairs())) {
                take(one);
            }
        }
        report = written();
        return failed.size();
    }

    long failure(int i, int what) {
        if (i < 0 || i >= Math.min(12, failed.size()) || what < 0 || what > 4) {
            return NONE;
        }
        Failure one = failed.get(i);
        return List.of((long) one.of.entry, (long) one.of.a, (long) one.of.b, one.foretold.told(), one.given.told())
            .get(what);
    }

    long shrink(int i, int what) {
        if (i < 0 || i >= Math.min(12, failed.size()) || what < 0 || what > 2) {
            return NONE;
        }
        Case now = failed.get(i).of;
        long steps = 0;
        Case next = fails(now) ? smaller(now) : null;
        while (next != null) {
            now = next;
            steps++;
            next = smaller(now);
        }
        return List.of((long) now.a, (long) now.b, steps).get(what);
    }

    int ledger(int entry) {
        if (entry < 0 || entry > 15) {
            return -1;
        }
        List<String> marks = List.of("below", "zero", "above", ARITHMETIC, INDEX, NEGATIVE, CAST, NULL);
        int sum = 0;
        for (String mark : ledgers.getOrDefault(entry, Set.of())) {
            sum += (int) Math.pow(2, marks.indexOf(mark));
        }
        return sum;
    }

    int letter(int i) {
        return i < 0 || i >= report.length() ? 0 : report.charAt(i);
    }

    int count(int what) {
        return switch (what) {
            case 0 -> taken.size();
            case 1 -> failed.size();
            case 2 -> leftOut;
            case 3 -> pairsHad.size();
            case 4 -> ledgers.values().stream().mapToInt(Set::size).sum();
            case 5 -> report.length();
            case 6 -> failed.isEmpty() ? 0 : 1;
            case 7 -> runs;
            case 8 -> faults.size();
            case 9 -> exclusions.size();
            default -> -1;
        };
    }

    private static Set<Integer> entriesOf(int mask) {
        Set<Integer> entries = new TreeSet<>();
        String bits = new StringBuilder(Integer.toBinaryString(mask)).reverse().toString();
        for (int i = 0; i < bits.length(); i++) {
            if (bits.charAt(i) == '1') {
                entries.add(i);
            }
        }
        return entries;
    }

    private List<Case> casesOf(int bound) {
        List<Integer> lattice = GREATEST.subList(0, List.of(3, 6, 12).get(bound - 1));
        List<Case> cases = new ArrayList<>();
        for (int entry : enabled) {
            for (int a : lattice) {
                for (int b : lattice) {
                    cases.add(new Case(entry, a, b));
                }
            }
        }
        return cases;
    }

    private void take(Case one) {
        taken.add(one);
        pairsHad.addAll(one.pairs());
        ledgers.computeIfAbsent(one.entry, entry -> new HashSet<>()).add(given(one).mark());
        if (fails(one)) {
            failed.add(new Failure(one, foretold(one), given(one)));
        }
    }

    private String written() {
        StringBuilder text = new StringBuilder();
        for (int entry : enabled) {
            long cases = taken.stream().filter(one -> one.entry == entry).count();
            long failures = failed.stream().filter(one -> one.of.entry == entry).count();
            if (cases > 0) {
                text.append(String.format("%s %d %d\n", NAMES[entry], cases, failures));
            }
        }
        return text.append(failed.isEmpty() ? "PASS\n" : "FAIL\n").toString();
    }

    private boolean fails(Case one) {
        return !given(one).equals(foretold(one));
    }

    private Case smaller(Case now) {
        for (int a : GREATEST.subList(0, GREATEST.indexOf(now.a))) {
            if (fails(new Case(now.entry, a, now.b))) {
                return new Case(now.entry, a, now.b);
            }
        }
        for (int b : GREATEST.subList(0, GREATEST.indexOf(now.b))) {
            if (fails(new Case(now.entry, now.a, b))) {
                return new Case(now.entry, now.a, b);
            }
        }
        return null;
    }

    private Result given(Case one) {
        Result foretold = foretold(one);
        for (Fault fault : faults) {
            Result changed = fault.entry == one.entry ? changed(fault, one, foretold) : null;
            if (changed != null) {
                return changed;
            }
        }
        return foretold;
    }

    /** What the fault makes of it, or null if it does not apply. */
    private static Result changed(Fault fault, Case one, Result foretold) {
        if (foretold.kind != null) {
            return switch (fault.sort) {
                case 2 -> Result.of(fault.n);
                case 3 -> Result.trouble(foretold.kind.equals(NULL) ? CAST : NULL);
                default -> null;
            };
        }
        return switch (fault.sort) {
            case 0 -> one.a == fault.n ? Result.of(foretold.value + 1L) : null;
            case 1 -> one.b == fault.n ? Result.trouble(ARITHMETIC) : null;
            case 4 -> foretold.value > fault.n
                ? Result.of(BigInteger.valueOf(foretold.value).flipBit(0)) : null;
            default -> null;
        };
    }

    private static Result foretold(Case one) {
        BigInteger a = BigInteger.valueOf(one.a);
        BigInteger b = BigInteger.valueOf(one.b);
        int shift = Math.floorMod(one.b, 32);
        return switch (NAMES[one.entry]) {
            case "add" -> Result.of(a.add(b));
            case "sub" -> Result.of(a.subtract(b));
            case "mul" -> Result.of(a.multiply(b));
            case "div" -> one.b == 0 ? Result.trouble(ARITHMETIC) : Result.of(a.divide(b));
            case "rem" -> one.b == 0 ? Result.trouble(ARITHMETIC) : Result.of(a.remainder(b));
            case "shl" -> Result.of(a.shiftLeft(shift));
            case "shr" -> Result.of(a.shiftRight(shift));
            case "ushr" -> Result.of(a.mod(BigInteger.TWO.pow(32)).shiftRight(shift));
            case "byte" -> Result.of(Math.floorMod(one.a + 128L, 256) - 128);
            case "char" -> Result.of(Math.floorMod(one.a, 65536));
            case "at" -> one.a < 0 || one.a > 2 ? Result.trouble(INDEX) : Result.of("kit".codePointAt(one.a));
            case "cell" -> one.b < 0 || one.b > 2 ? Result.trouble(INDEX) : Result.of(70 + 10L * one.b);
            case "size" -> one.a < 0 ? Result.trouble(NEGATIVE) : Result.of(Math.min(one.a, 64));
            case "cast" -> a.equals(b) ? Result.of(a) : Result.trouble(CAST);
            case "text" -> a.compareTo(b) > 0 ? Result.of(4) : Result.trouble(NULL);
            default -> Result.of(a.compareTo(b));
        };
    }
}
