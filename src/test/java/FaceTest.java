import java.lang.reflect.Constructor;
import java.lang.reflect.Field;
import java.lang.reflect.Method;
import java.lang.reflect.Modifier;
import java.util.ArrayList;
import java.util.Collections;
import java.util.List;

/** The class shows the document's face and nothing else (LANGUAGE.md, rules 1 and 5). */
public final class FaceTest {
    private static final String[] FACE = {
        "public void set(int,int,int,int,int) throws IllegalArgumentException,IllegalStateException",
        "public int review(int,int) throws IllegalArgumentException",
        "public int excuse(int,int) throws IllegalArgumentException",
        "public int take(int,int) throws IllegalArgumentException,IllegalStateException",
        "public int takeDaily(int,int,int) throws IllegalArgumentException,IllegalStateException",
        "public long close() throws IllegalStateException",
        "public int closed()",
        "public int taken(int) throws IllegalArgumentException",
        "public int takenFrom(int,int) throws IllegalArgumentException",
        "public int price(int) throws IllegalArgumentException",
        "public int least(int) throws IllegalArgumentException",
        "public int shortfall(int) throws IllegalArgumentException,IllegalStateException",
        "public int madeUp(int) throws IllegalArgumentException,IllegalStateException",
        "public int covered(int) throws IllegalArgumentException,IllegalStateException",
        "public int surplus(int) throws IllegalArgumentException,IllegalStateException",
        "public long due(int) throws IllegalArgumentException,IllegalStateException",
        "public long bill(int) throws IllegalArgumentException,IllegalStateException",
        "public int makeUpLeft(int) throws IllegalArgumentException,IllegalStateException",
        "public int surplusLeft(int) throws IllegalArgumentException,IllegalStateException",
        "public int lapsed()",
        "public long open()",
    };

    private FaceTest() {
    }

    public static void main(String[] args) {
        theClass();
        theMethods();
        theFields(MakeupGas.class);
        theClassesInside();
        Checks.finish();
    }

    private static void theClass() {
        int modifiers = MakeupGas.class.getModifiers();
        Checks.holds("the class is public", Modifier.isPublic(modifiers));
        Checks.holds("the class is final", Modifier.isFinal(modifiers));
        Constructor<?>[] constructors = MakeupGas.class.getDeclaredConstructors();
        Checks.equal("constructors", constructors.length, 1);
        Checks.equal("the constructor", constructors[0].toGenericString(), "public MakeupGas()");
    }

    private static void theMethods() {
        List<String> shown = new ArrayList<>();
        List<String> names = new ArrayList<>();
        for (Method method : MakeupGas.class.getDeclaredMethods()) {
            if (!Modifier.isPrivate(method.getModifiers())) {
                shown.add(signature(method));
                names.add(method.getName());
            }
        }
        List<String> due = new ArrayList<>(List.of(FACE));
        Collections.sort(due);
        Collections.sort(shown);
        Checks.equal("the methods that are not private", shown.toString(), due.toString());
        for (Method method : MakeupGas.class.getDeclaredMethods()) {
            Checks.holds("a private method has a public one's name: " + method.getName(),
                    !Modifier.isPrivate(method.getModifiers()) || !names.contains(method.getName()));
        }
    }

    private static String signature(Method method) {
        return method.toGenericString().replace("java.lang.", "").replace("MakeupGas.", "");
    }

    private static void theFields(Class<?> owner) {
        for (Field field : owner.getDeclaredFields()) {
            int modifiers = field.getModifiers();
            Checks.holds(field + " is private", Modifier.isPrivate(modifiers));
            Checks.holds(field + " is final if static",
                    !Modifier.isStatic(modifiers) || Modifier.isFinal(modifiers));
        }
    }

    private static void theClassesInside() {
        for (Class<?> inside : MakeupGas.class.getDeclaredClasses()) {
            int modifiers = inside.getModifiers();
            Checks.holds(inside + " is static", Modifier.isStatic(modifiers));
            Checks.holds(inside + " is not public", !Modifier.isPublic(modifiers));
            theFields(inside);
        }
    }
}
