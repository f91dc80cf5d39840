import java.io.IOException;
import java.lang.reflect.InvocationTargetException;
import java.lang.reflect.Method;
import java.nio.file.Files;
import java.nio.file.Path;
import java.util.List;
import java.util.regex.Matcher;
import java.util.regex.Pattern;
import java.util.stream.Stream;

/** README.md's example, call by call: each line of it is made and must answer what stands behind its //. */
public final class ReadmeTest {
    private static final Pattern CALL =
        Pattern.compile("house\\.(\\w+)\\(([^()]*)\\);\\s+// ('.'|[-\\w.]+)(: .*)?");
    private static final int LEAST_CALLS = 30;
    private static int calls = 0;

    public static void main(String[] args) throws IOException {
        String readme = Files.readString(Path.of("README.md"));
        example(readme);
        table(readme);
        Check.finish("ReadmeTest");
    }

    private static void example(String readme) {
        Matcher block = Pattern.compile("(?s)```java\n(.*?)```").matcher(readme);
        if (!block.find()) {
            Check.due("an example", "README.md", () -> "none");
            return;
        }
        String[] lines = block.group(1).split("\n");
        Check.due("Theatrehouse house = new Theatrehouse();", "the first line", () -> lines[0]);
        Theatrehouse house = new Theatrehouse();
        for (int i = 1; i < lines.length; i++) {
            if (!lines[i].isEmpty() && !lines[i].startsWith("//")) {
                line(house, lines[i]);
            }
        }
        Check.due(true, "calls of the example: " + calls, () -> calls >= LEAST_CALLS);
    }

    private static void line(Theatrehouse house, String line) {
        Matcher call = CALL.matcher(line);
        if (!call.matches()) {
            Check.due("a call with its answer", "a line of the example", () -> line);
            return;
        }
        calls++;
        Check.due(call.group(3), line, () -> answer(house, call.group(1), call.group(2)));
    }

    private static String answer(Theatrehouse house, String name, String arguments) {
        Method method = method(name);
        if (method == null) {
            return "no such method";
        }
        String[] texts = arguments.isEmpty() ? new String[0] : arguments.split(", ");
        Object[] values = new Object[texts.length];
        for (int i = 0; i < texts.length; i++) {
            values[i] = texts[i].startsWith("'") ? (Object) texts[i].charAt(1) : (Object) Integer.valueOf(texts[i]);
        }
        try {
            Object got = method.invoke(house, values);
            return got instanceof Character ? "'" + got + "'" : String.valueOf(got);
        } catch (InvocationTargetException e) {
            return e.getCause().getClass().getSimpleName();
        } catch (ReflectiveOperationException e) {
            return e.toString();
        }
    }

    private static Method method(String name) {
        for (Method method : Theatrehouse.class.getMethods()) {
            if (method.getName().equals(name)) {
                return method;
            }
        }
        return null;
    }

    private static void table(String readme) throws IOException {
        List<String> tests;
        try (Stream<Path> files = Files.list(Path.of("src/test/java"))) {
            tests = files.map(file -> file.getFileName().toString()).filter(file -> file.endsWith("Test.java"))
                .map(file -> file.substring(0, file.length() - ".java".length())).sorted().toList();
        }
        for (String test : tests) {
            Check.due(true, "README.md tells of " + test, () -> readme.contains("`" + test + "`"));
        }
    }
}
