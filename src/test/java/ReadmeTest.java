import java.io.IOException;
import java.lang.reflect.Field;
import java.lang.reflect.Method;
import java.lang.reflect.Modifier;
import java.nio.file.Files;
import java.nio.file.Path;
import java.util.ArrayList;
import java.util.List;
import java.util.regex.Matcher;
import java.util.regex.Pattern;

/** README.md tells the face that the class has, and its example answers as it says there. */
public final class ReadmeTest {
    private static final Check CHECK = new Check("README.md");
    private static final Pattern CALL = Pattern.compile("(?m)^vault\\.(\\w+)\\(([^)]*)\\);\\s+// ([-\\w]+)");
    private static final Pattern THROWN = Pattern.compile("(?m)^- Throws `(\\w+)` if ");

    public static void main(String[] args) {
        CHECK.runAll(ReadmeTest.class);
    }

    private static String page() throws IOException {
        return Files.readString(Path.of("README.md"));
    }

    private static List<Method> face() {
        List<Method> face = new ArrayList<>();
        for (Method method : BoxVault.class.getDeclaredMethods()) {
            if (Modifier.isPublic(method.getModifiers())) {
                face.add(method);
            }
        }
        return face;
    }

    /** What stands under the method's heading; empty if there is none with its types. */
    private static String section(Method method) throws IOException {
        StringBuilder heading = new StringBuilder("(?ms)^#### `");
        heading.append(method.getReturnType()).append(' ').append(method.getName()).append("\\(");
        String between = "";
        for (Class<?> type : method.getParameterTypes()) {
            heading.append(between).append(type).append(" \\w+");
            between = ", ";
        }
        Matcher found = Pattern.compile(heading + "\\)`$(.*?)(?=^#|\\z)").matcher(page());
        return found.find() ? found.group(1) : "";
    }

    private static void has(String what, String text, String part) {
        CHECK.same(what + " tells \"" + part.strip() + "\"", "true", Boolean.toString(text.contains(part)));
    }

    static void theConstructorIsTold() throws IOException {
        has("the page", page(), "\n#### `BoxVault()`\n");
    }

    static void theConstantsAreToldWithTheirValues() throws IOException, IllegalAccessException {
        for (Field field : BoxVault.class.getFields()) {
            has("the page", page(), "\n| `BoxVault." + field.getName() + "` | " + field.getInt(null) + " | ");
        }
    }

    static void eachMethodIsTold() throws IOException {
        for (Method method : face()) {
            has(method.getName(), section(method), "\n- Takes `");
            has(method.getName(), section(method), "\n- Answers ");
        }
    }

    static void eachExceptionIsToldInTheDocumentsOrder() throws IOException {
        for (Method method : face()) {
            List<String> told = new ArrayList<>();
            Matcher found = THROWN.matcher(section(method));
            while (found.find()) {
                told.add(found.group(1));
            }
            List<String> thrown = new ArrayList<>();
            for (Class<?> type : method.getExceptionTypes()) {
                thrown.add(type.getSimpleName());
            }
            CHECK.same("exceptions of " + method.getName(), thrown.toString(), told.toString());
        }
    }

    static void theMostCallsAreTold() throws IOException {
        has("the page", page(), "at most 512 calls after it has been made");
    }

    static void theExampleAnswersAsItSays() throws IOException, ReflectiveOperationException {
        BoxVault vault = new BoxVault();
        Matcher call = CALL.matcher(page());
        int calls = 0;
        while (call.find()) {
            calls++;
            CHECK.same(call.group(), call.group(3), made(vault, call.group(1), call.group(2)));
        }
        CHECK.same("calls of the example", Integer.toString(page().split("\nvault\\.").length - 1), "" + calls);
        CHECK.same("there is an example", "true", Boolean.toString(calls > 0));
    }

    private static String made(BoxVault vault, String name, String arguments) throws ReflectiveOperationException {
        String[] texts = arguments.split(", ");
        Object[] values = new Object[texts.length];
        for (int i = 0; i < texts.length; i++) {
            boolean number = texts[i].matches("-?\\d+");
            values[i] = number ? (Object) Integer.valueOf(texts[i]) : Boolean.valueOf(texts[i]);
        }
        for (Method method : face()) {
            if (method.getName().equals(name)) {
                return String.valueOf(method.invoke(vault, values));
            }
        }
        return "no such method";
    }
}
