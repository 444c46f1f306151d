import java.lang.reflect.Constructor;
import java.lang.reflect.Field;
import java.lang.reflect.Method;
import java.lang.reflect.Modifier;
import java.util.Arrays;
import java.util.TreeSet;

/** The public face is the document's, and nothing else can be seen from outside. */
public final class FaceTest {
    private static final String[] FACE = {
        "public final class QueuedFronts",
        "public static final int QueuedFronts.NONE",
        "public QueuedFronts()",
        "public boolean QueuedFronts.code(int,int,int)",
        "public boolean QueuedFronts.data(int,int,int)",
        "public boolean QueuedFronts.set(int,int)",
        "public boolean QueuedFronts.setSpace(int,int)",
        "public boolean QueuedFronts.go(int,int,boolean)",
        "public boolean QueuedFronts.interrupt()",
        "public int QueuedFronts.run(int)",
        "public int QueuedFronts.state(int)",
        "public int QueuedFronts.register(int)",
        "public int QueuedFronts.space(int)",
        "public int QueuedFronts.word(int,int)",
        "public int QueuedFronts.peek(int,int)",
        "public int QueuedFronts.count(int)",
        "public void QueuedFronts.mark()",
        "public boolean QueuedFronts.back()",
    };

    public static void main(String[] args) {
        Check check = new Check();
        check.due("the face", String.join("\n", seen()), String.join("\n", new TreeSet<>(Arrays.asList(FACE))));
        check.due("NONE", QueuedFronts.NONE, -1);
        for (Class<?> inside : QueuedFronts.class.getDeclaredClasses()) {
            boolean fits = Modifier.isStatic(inside.getModifiers())
                && !Modifier.isPublic(inside.getModifiers()) && !Modifier.isProtected(inside.getModifiers());
            check.due(inside + " is static and not seen", fits, true);
        }
        check.finish();
    }

    private static TreeSet<String> seen() {
        TreeSet<String> seen = new TreeSet<>();
        seen.add(QueuedFronts.class.toGenericString());
        for (Field field : QueuedFronts.class.getDeclaredFields()) {
            if (!Modifier.isPrivate(field.getModifiers())) {
                seen.add(field.toString());
            }
        }
        for (Constructor<?> constructor : QueuedFronts.class.getDeclaredConstructors()) {
            if (!Modifier.isPrivate(constructor.getModifiers())) {
                seen.add(constructor.toString());
            }
        }
        for (Method method : QueuedFronts.class.getDeclaredMethods()) {
            if (!Modifier.isPrivate(method.getModifiers())) {
                seen.add(method.toString());
            }
        }
        return seen;
    }
}
