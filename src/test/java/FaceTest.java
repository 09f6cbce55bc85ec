import java.lang.reflect.Constructor;
import java.lang.reflect.Field;
import java.lang.reflect.Method;
import java.lang.reflect.Modifier;
import java.util.List;
import java.util.TreeSet;

/** The class shows what the document's face tells, and nothing else. */
public final class FaceTest {
    private static final List<String> FACE = List.of(
        "public static final int CleanRuns.NONE",
        "public static final int CleanRuns.FULL",
        "public CleanRuns()",
        "public int CleanRuns.recipe()",
        "public boolean CleanRuns.step(int,int,int,double,double)",
        "public int CleanRuns.start(int,int)",
        "public int CleanRuns.tick(int,double,double,double)",
        "public int CleanRuns.state(int)",
        "public int CleanRuns.stepOf(int)",
        "public long CleanRuns.counted(int)",
        "public int CleanRuns.failed(int)",
        "public double CleanRuns.cleaner(int,int)",
        "public boolean CleanRuns.interface2(int,double,int)",
        "public int CleanRuns.level(int)",
        "public boolean CleanRuns.breakOff(int)",
        "public int CleanRuns.record(int,int,int)",
        "public int CleanRuns.states()");

    public static void main(String[] args) {
        TreeSet<String> shown = new TreeSet<>();
        for (Field field : CleanRuns.class.getDeclaredFields()) {
            keepUnlessPrivate(shown, field.getModifiers(), field.toGenericString());
        }
        for (Constructor<?> constructor : CleanRuns.class.getDeclaredConstructors()) {
            keepUnlessPrivate(shown, constructor.getModifiers(), constructor.toGenericString());
        }
        for (Method method : CleanRuns.class.getDeclaredMethods()) {
            keepUnlessPrivate(shown, method.getModifiers(), method.toGenericString());
        }
        int modifiers = CleanRuns.class.getModifiers();
        boolean right = shown.equals(new TreeSet<>(FACE))
            && Modifier.isPublic(modifiers) && Modifier.isFinal(modifiers)
            && CleanRuns.NONE == -1 && CleanRuns.FULL == -2;
        System.out.println(right ? "the face is as told" : "the face is not as told: " + shown);
        if (!right) {
            System.exit(1);
        }
    }

    private static void keepUnlessPrivate(TreeSet<String> shown, int modifiers, String text) {
        if (!Modifier.isPrivate(modifiers)) {
            shown.add(text);
        }
    }
}
