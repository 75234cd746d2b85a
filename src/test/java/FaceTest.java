import java.lang.reflect.Constructor;
import java.lang.reflect.Field;
import java.lang.reflect.Method;
import java.lang.reflect.Modifier;
import java.util.Set;
import java.util.TreeSet;

/** The public face: what the document names, and nothing else that is not private. */
public final class FaceTest {
    private static final Set<String> METHODS = Set.of(
        "void code(int, int) throws IndexOutOfBoundsException",
        "void data(int, int) throws IndexOutOfBoundsException",
        "void begin()",
        "int run(int) throws IllegalArgumentException",
        "int register(int) throws IndexOutOfBoundsException",
        "int memory(int) throws IndexOutOfBoundsException",
        "int output(int) throws IndexOutOfBoundsException",
        "int count(int) throws IllegalArgumentException");

    private FaceTest() {
    }

    private static String join(Class<?>[] types) {
        StringBuilder text = new StringBuilder();
        for (Class<?> type : types) {
            text.append(text.length() == 0 ? "" : ", ").append(type.getSimpleName());
        }
        return text.toString();
    }

    private static String told(Method method) {
        String thrown = join(method.getExceptionTypes());
        return method.getReturnType().getSimpleName() + " " + method.getName() + "("
            + join(method.getParameterTypes()) + ")" + (thrown.isEmpty() ? "" : " throws " + thrown);
    }

    private static void dueTrue(String what, boolean holds) {
        Checks.due(what + " (1 it is so, 0 not)", holds ? 1 : 0, 1);
    }

    private static void methods() {
        Set<String> seen = new TreeSet<>();
        for (Method method : StageHost.class.getDeclaredMethods()) {
            if (!Modifier.isPrivate(method.getModifiers())) {
                seen.add(told(method));
                dueTrue(told(method) + " is public, of the object and plain", method.getModifiers() == Modifier.PUBLIC);
            }
        }
        dueTrue("the methods " + seen + " are those of the document", seen.equals(METHODS));
    }

    private static void othersArePrivate() {
        for (Field field : StageHost.class.getDeclaredFields()) {
            dueTrue("field " + field.getName() + " is private", Modifier.isPrivate(field.getModifiers()));
            if (Modifier.isStatic(field.getModifiers())) {
                dueTrue("field " + field.getName() + " is final", Modifier.isFinal(field.getModifiers()));
            }
        }
        for (Class<?> inside : StageHost.class.getDeclaredClasses()) {
            int modifiers = inside.getModifiers();
            dueTrue("class " + inside.getSimpleName() + " is private", Modifier.isPrivate(modifiers));
            dueTrue("class " + inside.getSimpleName() + " is static", Modifier.isStatic(modifiers));
        }
    }

    public static void main(String[] args) {
        int modifiers = StageHost.class.getModifiers();
        dueTrue("the class is public and final", modifiers == (Modifier.PUBLIC | Modifier.FINAL));
        Constructor<?>[] constructors = StageHost.class.getDeclaredConstructors();
        Checks.due("constructors", constructors.length, 1);
        Checks.due("what the constructor takes", constructors[0].getParameterCount(), 0);
        dueTrue("the constructor is public", constructors[0].getModifiers() == Modifier.PUBLIC);
        methods();
        othersArePrivate();
        Checks.end();
    }
}
