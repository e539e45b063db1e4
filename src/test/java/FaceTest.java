import java.lang.reflect.Constructor;
import java.lang.reflect.Field;
import java.lang.reflect.Method;
import java.lang.reflect.Modifier;
import java.util.Arrays;
import java.util.Set;
import java.util.TreeSet;
import java.util.stream.Collectors;

/** The public face: just what the document shows, and nothing else that can be seen from outside. */
public final class FaceTest {
    private static final Set<String> METHODS = new TreeSet<>(Set.of(
            "int switchOn() throws IllegalStateException",
            "int switchOff() throws IllegalStateException",
            "void failAfter(int) throws IllegalArgumentException",
            "boolean isOn()",
            "int running()",
            "boolean isOnTrial()",
            "int writes()",
            "boolean offer(int, int, int, int) throws IllegalArgumentException, IllegalStateException",
            "boolean put(int) throws IllegalArgumentException, IllegalStateException",
            "int copy(int, int) throws IllegalArgumentException, IllegalStateException",
            "boolean finish(int) throws IllegalArgumentException, IllegalStateException",
            "boolean confirm() throws IllegalStateException",
            "int toCome()",
            "int draft(int) throws IllegalArgumentException, IllegalStateException",
            "int clearDraft()",
            "int draftHash()",
            "int deltaPieces(int) throws IllegalArgumentException, IllegalStateException",
            "int deltaLength(int, int) throws IllegalArgumentException, IllegalStateException, IndexOutOfBoundsException",
            "int deltaFrom(int, int) throws IllegalArgumentException, IllegalStateException, IndexOutOfBoundsException",
            "boolean isStartable(int) throws IllegalArgumentException",
            "int version(int) throws IllegalArgumentException",
            "int imageByte(int, int) throws IllegalArgumentException, IndexOutOfBoundsException",
            "int record()",
            "boolean isValid(int) throws IllegalArgumentException",
            "int confirmed()",
            "int tries()",
            "int counter()",
            "int safeFinish(int) throws IllegalArgumentException, IllegalStateException",
            "int wouldStart()"));

    private FaceTest() {
    }

    public static void main(String[] args) throws ReflectiveOperationException {
        Due due = new Due();
        due.same("NONE", Bootstay.NONE, -1);
        due.same("the class is public and final", Bootstay.class.getModifiers(), Modifier.PUBLIC | Modifier.FINAL);
        due.same("the methods", visibleMethods(), METHODS);
        due.same("the fields", visibleFields(), Set.of("public static final int NONE"));
        due.same("the constructors", visibleConstructors(), Set.of("public Bootstay()"));
        due.end("FaceTest");
    }

    private static Set<String> visibleMethods() {
        return Arrays.stream(Bootstay.class.getDeclaredMethods())
                .filter(method -> !Modifier.isPrivate(method.getModifiers()))
                .map(FaceTest::written)
                .collect(Collectors.toCollection(TreeSet::new));
    }

    private static String written(Method method) {
        String access = method.getModifiers() == Modifier.PUBLIC ? "" : Modifier.toString(method.getModifiers()) + " ";
        String thrown = names(method.getExceptionTypes());
        return access + method.getReturnType().getSimpleName() + " " + method.getName()
                + "(" + names(method.getParameterTypes()) + ")" + (thrown.isEmpty() ? "" : " throws " + thrown);
    }

    private static String names(Class<?>[] types) {
        return Arrays.stream(types).map(Class::getSimpleName).collect(Collectors.joining(", "));
    }

    private static Set<String> visibleFields() {
        return Arrays.stream(Bootstay.class.getDeclaredFields())
                .filter(field -> !Modifier.isPrivate(field.getModifiers()))
                .map(Field::toString)
                .map(text -> text.replace("Bootstay.", ""))
                .collect(Collectors.toSet());
    }

    private static Set<String> visibleConstructors() {
        return Arrays.stream(Bootstay.class.getDeclaredConstructors())
                .filter(made -> !Modifier.isPrivate(made.getModifiers()))
                .map(Constructor::toString)
                .collect(Collectors.toSet());
    }
}
