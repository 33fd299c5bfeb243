import java.lang.reflect.Constructor;
import java.lang.reflect.Field;
import java.lang.reflect.Method;
import java.lang.reflect.Modifier;
import java.util.Set;
import java.util.TreeSet;

/** The document's public face. */
public final class FaceTest {
    private static final Set<String> FACE = new TreeSet<>(Set.of(
        "public static final int KitRunner.DONE",
        "public static final int KitRunner.REFUSED",
        "public static final int KitRunner.FULL",
        "public static final long KitRunner.NONE",
        "public static final long KitRunner.KIND",
        "public KitRunner()",
        "public int KitRunner.fault(int,int,int)",
        "public int KitRunner.exclude(int,int)",
        "public int KitRunner.clear(int)",
        "public int KitRunner.enable(int)",
        "public int KitRunner.find(long)",
        "public long KitRunner.outcome(int,int,int,boolean)",
        "public int KitRunner.run(int,boolean)",
        "public long KitRunner.failure(int,int)",
        "public long KitRunner.shrink(int,int)",
        "public int KitRunner.ledger(int)",
        "public int KitRunner.letter(int)",
        "public int KitRunner.count(int)"));

    public static void main(String[] args) {
        Checks checks = new Checks();
        checks.dueText("face", visibleMembers().toString(), FACE.toString());
        checks.dueText("class", Modifier.toString(KitRunner.class.getModifiers()), "public final");
        for (Class<?> inside : KitRunner.class.getDeclaredClasses()) {
            checks.due(inside + " is static", Modifier.isStatic(inside.getModifiers()) ? 1 : 0, 1);
            checks.due(inside + " is not public", Modifier.isPublic(inside.getModifiers()) ? 1 : 0, 0);
        }
        checks.end();
    }

    private static Set<String> visibleMembers() {
        Set<String> members = new TreeSet<>();
        for (Field field : KitRunner.class.getDeclaredFields()) {
            if (!Modifier.isPrivate(field.getModifiers())) {
                members.add(field.toString());
            }
        }
        for (Constructor<?> constructor : KitRunner.class.getDeclaredConstructors()) {
            if (!Modifier.isPrivate(constructor.getModifiers())) {
                members.add(constructor.toString());
            }
        }
        for (Method method : KitRunner.class.getDeclaredMethods()) {
            if (!Modifier.isPrivate(method.getModifiers())) {
                members.add(method.toString());
            }
        }
        return members;
    }
}
