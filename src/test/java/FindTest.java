/** Promise 6. */
public final class FindTest {
    private static final String[] NAMES = {
        "add", "sub", "mul", "div", "rem", "shl", "shr", "ushr",
        "byte", "char", "at", "cell", "size", "cast", "text", "cmp"
    };

    public static void main(String[] args) {
        Checks checks = new Checks();
        findsEachName(checks);
        leavesZeroBytesOut(checks);
        refusesOtherNames(checks);
        checks.end();
    }

    private static long packed(String eight) {
        long name = 0;
        for (int i = 0; i < eight.length(); i++) {
            name = name * 256 + eight.charAt(i);
        }
        return name;
    }

    private static void findsEachName(Checks checks) {
        KitRunner kit = new KitRunner();
        for (int entry = 0; entry < 16; entry++) {
            checks.due("find " + NAMES[entry], kit.find(packed(NAMES[entry])), entry);
        }
        kit.enable(0);
        checks.due("find one not enabled", kit.find(packed("add")), 0);
    }

    private static void leavesZeroBytesOut(Checks checks) {
        KitRunner kit = new KitRunner();
        checks.due("zeros behind", kit.find(packed("add\0\0\0\0\0")), 0);
        checks.due("zeros before and behind", kit.find(packed("\0\0cmp\0\0\0")), 15);
        checks.due("zeros between", kit.find(packed("s\0u\0b")), 1);
        checks.due("zeros all over", kit.find(packed("\0u\0s\0h\0r")), 7);
        checks.due("highest first", kit.find(packed("a\0\0\0\0\0\0t")), 10);
        checks.due("zeros between four", kit.find(packed("ce\0\0\0\0ll")), 11);
    }

    private static void refusesOtherNames(Checks checks) {
        KitRunner kit = new KitRunner();
        String[] wrong = {
            "", "a", "ad", "addd", "aadd", "ADD", "Add", "dda", "ta", "att", "ushl", "addadd", "add\0add",
            "cmpp", "add ", " add", "add\1", "\1add", "null", "shrushr", "zzzzzadd", "addzzzzz", "kit", "\200add"
        };
        for (String name : wrong) {
            checks.due("find " + name, kit.find(packed(name)), -1);
        }
        checks.due("find(0)", kit.find(0), -1);
        checks.due("find(-1)", kit.find(-1), -1);
        checks.due("find(1)", kit.find(1), -1);
        checks.due("find(least)", kit.find(Long.MIN_VALUE), -1);
        checks.due("find(greatest)", kit.find(Long.MAX_VALUE), -1);
        checks.due("a byte with its highest bit", kit.find(packed("at") | 0x80L << 56), -1);
    }
}
