import java.lang.reflect.Constructor;
import java.lang.reflect.Field;
import java.lang.reflect.Method;
import java.lang.reflect.Modifier;
import java.util.Set;
import java.util.TreeSet;

/** The document's public face, and the example of the README. */
public final class FaceTest {
    private static final Set<String> FACE = new TreeSet<>(Set.of(
        "public static final int KitRunner.DONE",
        "public static final int KitRunner.REFUSED",
        "public static final int KitRunner.FULL",
        "public static final long KitRunner.NONE",
        "public static final long KitRunner.KIND",
        "public KitRunner()",
        "public int KitRunner.fault(int,int,int)",
        "public int KitRunner.exclude(int,int)",
        "public int KitRunner.clear(int)",
        "public int KitRunner.enable(int)",
        "public int KitRunner.find(long)",
        "public long KitRunner.outcome(int,int,int,boolean)",
        "public int KitRunner.run(int,boolean)",
        "public long KitRunner.failure(int,int)",
        "public long KitRunner.shrink(int,int)",
        "public int KitRunner.ledger(int)",
        "public int KitRunner.letter(int)",
        "public int KitRunner.count(int)"));

    public static void main(String[] args) {
        Checks checks = new Checks();
        checks.dueText("face", visibleMembers().toString(), FACE.toString());
        checks.dueText("class", Modifier.toString(KitRunner.class.getModifiers()), "public final");
        for (Class<?> inside : KitRunner.class.getDeclaredClasses()) {
            checks.due(inside + " is static", Modifier.isStatic(inside.getModifiers()) ? 1 : 0, 1);
            checks.due(inside + " is not public", Modifier.isPublic(inside.getModifiers()) ? 1 : 0, 0);
        }
        holdsTheReadme(checks);
        checks.end();
    }

    private static Set<String> visibleMembers() {
        Set<String> members = new TreeSet<>();
        for (Field field : KitRunner.class.getDeclaredFields()) {
            if (!Modifier.isPrivate(field.getModifiers())) {
                members.add(field.toString());
            }
        }
        for (Constructor<?> constructor : KitRunner.class.getDeclaredConstructors()) {
            if (!Modifier.isPrivate(constructor.getModifiers())) {
                members.add(constructor.toString());
            }
        }
        for (Method method : KitRunner.class.getDeclaredMethods()) {
            if (!Modifier.isPrivate(method.getModifiers())) {
                members.add(method.toString());
            }
        }
        return members;
    }

    private static void holdsTheReadme(Checks checks) {
        KitRunner kit = new KitRunner();
        kit.fault(3, 2, 5);
        kit.exclude(4, 0);
        kit.enable(1 << 3 | 1 << 4);
        checks.due("failures", kit.run(1, false), 3);
        checks.due("entry", kit.failure(0, 0), 3);
        checks.due("given", kit.failure(0, 4), 5);
        checks.due("steps", kit.shrink(2, 2), 1);
        checks.dueText("report", Checks.report(kit), "div 9 3\nrem 4 0\nFAIL\n");
    }
}
