import java.io.IOException;
import java.lang.reflect.InvocationTargetException;
import java.lang.reflect.Method;
import java.lang.reflect.Modifier;
import java.nio.file.Files;
import java.nio.file.Path;
import java.util.Arrays;
import java.util.List;
import java.util.Set;
import java.util.TreeSet;
import java.util.regex.Matcher;
import java.util.regex.Pattern;

/** The examples in README.md, which is read from the directory that the test runs in. */
public final class ReadmeTest {
    private static final String NEW_DEVICE = "Bootstay device = new Bootstay();";
    private static final Pattern CALL = Pattern.compile("device\\.(\\w+)\\(([-\\d, ]*)\\);\\s*// ([^:]+)(:.*)?");

    private final Due due = new Due();
    private final Set<String> tried = new TreeSet<>();
    private Bootstay device = new Bootstay();

    private ReadmeTest() {
    }

    public static void main(String[] args) throws IOException, ReflectiveOperationException {
        List<String> lines = Files.readAllLines(Path.of("README.md"));
        ReadmeTest test = new ReadmeTest();
        test.runExamples(lines);
        test.findEveryCall(String.join("\n", lines));
        test.due.end("ReadmeTest");
    }

    private void runExamples(List<String> lines) throws ReflectiveOperationException {
        boolean inExample = false;
        for (String line : lines) {
            if (line.startsWith("```")) {
                inExample = line.equals("```java");
            } else if (inExample) {
                runLine(line);
            }
        }
        due.same("the examples call put()", tried.contains("put"), true);
    }

    private void runLine(String line) throws ReflectiveOperationException {
        if (line.equals(NEW_DEVICE)) {
            device = new Bootstay();
            return;
        }
        Matcher call = CALL.matcher(line);
        if (!call.matches()) {
            due.same(line, "a line of another form", "a call and its answer");
            return;
        }
        Method method = publicMethod(call.group(1));
        Object got = answer(method, numbers(call.group(2)));
        tried.add(method.getName());
        boolean answers = method.getReturnType() != void.class;
        due.same(line, String.valueOf(got), answers ? call.group(3).trim() : "null");
    }

    private static Method publicMethod(String name) throws NoSuchMethodException {
        for (Method method : Bootstay.class.getDeclaredMethods()) {
            if (method.getName().equals(name)) {
                return method;
            }
        }
        throw new NoSuchMethodException(name);
    }

    private static Object[] numbers(String written) {
        return written.isBlank() ? new Object[0] : Arrays.stream(written.split(", ")).map(Integer::valueOf).toArray();
    }

    private Object answer(Method method, Object[] arguments) throws IllegalAccessException {
        try {
            return method.invoke(device, arguments);
        } catch (InvocationTargetException e) {
            return "throws " + e.getCause().getClass().getSimpleName();
        }
    }

    private void findEveryCall(String page) {
        for (Method method : Bootstay.class.getDeclaredMethods()) {
            if (Modifier.isPublic(method.getModifiers())) {
                due.same("README.md names " + method.getName() + "()", page.contains("`" + method.getName() + "("), true);
            }
        }
    }
}
