import java.io.IOException;
import java.lang.reflect.Method;
import java.nio.file.Files;
import java.nio.file.Path;
import java.util.Set;
import java.util.TreeSet;
import java.util.regex.Matcher;
import java.util.regex.Pattern;

/** The lines of README.md that show how the class is used answer what stands behind them. */
public final class ReadmeTest {
    private static final Path README = Path.of("README.md");
    private static final Pattern TEXT = Pattern.compile("for \\(char sign : \"([^\"]*)\"\\.toCharArray\\(\\)\\) x\\.feed\\(sign\\);");
    private static final Pattern CALL = Pattern.compile("x\\.(\\w+)\\(([-\\d, ]*)\\); +// (-?\\d+|[A-Z]+)(:.*)?");

    private ReadmeTest() {
    }

    public static void main(String[] args) throws IOException, ReflectiveOperationException {
        String readme = Files.readString(README);
        int from = readme.indexOf("```java\n");
        int to = readme.indexOf("```\n", from + 1);
        Checks.due("README.md shows lines", from >= 0 && to > from ? 1 : 0, 1);
        MistHeaps x = new MistHeaps();
        for (String line : readme.substring(from, to).split("\n")) run(x, line);
        everyMethodIsShown(readme.substring(from, to));
        Checks.due("README.md says how to run the tests", readme.contains("    .ci/run\n") ? 1 : 0, 1);
        everyTestIsTold(readme);
        Checks.end("ReadmeTest");
    }

    private static void run(MistHeaps x, String line) throws ReflectiveOperationException {
        Matcher text = TEXT.matcher(line);
        Matcher call = CALL.matcher(line);
        if (text.matches()) Checks.feed(x, text.group(1));
        else if (call.matches()) Checks.due(line, answer(x, call.group(1), call.group(2)), due(call.group(3)));
        else Checks.due("no other line: " + line, line.matches("|//.*|```java|MistHeaps x = new MistHeaps\\(\\);") ? 1 : 0, 1);
    }

    private static long due(String told) throws ReflectiveOperationException {
        boolean named = Character.isLetter(told.charAt(0));
        return named ? ((Number) MistHeaps.class.getField(told).get(null)).longValue() : Long.parseLong(told);
    }

    private static long answer(MistHeaps x, String name, String numbers) throws ReflectiveOperationException {
        String[] parts = numbers.isEmpty() ? new String[0] : numbers.split(", ");
        for (Method method : MistHeaps.class.getMethods()) {
            if (!method.getName().equals(name) || method.getParameterCount() != parts.length) continue;
            Object[] with = new Object[parts.length];
            for (int i = 0; i < parts.length; i++) {
                boolean isLong = method.getParameterTypes()[i] == long.class;
                with[i] = isLong ? (Object) Long.valueOf(parts[i]) : (Object) Integer.valueOf(parts[i]);
            }
            return ((Number) method.invoke(x, with)).longValue();
        }
        throw new IllegalStateException("README.md calls " + name + "(" + numbers + "), which there is not");
    }

    private static void everyMethodIsShown(String lines) {
        Set<String> left = new TreeSet<>();
        for (Method method : MistHeaps.class.getDeclaredMethods()) {
            boolean isPublic = (method.getModifiers() & java.lang.reflect.Modifier.PUBLIC) != 0;
            if (isPublic && !lines.contains("x." + method.getName() + "(")) left.add(method.getName());
        }
        Checks.due("methods that README.md does not show " + left, left.size(), 0);
    }

    private static void everyTestIsTold(String readme) throws IOException {
        try (var files = Files.list(Path.of("src/test/java"))) {
            for (String name : files.map(file -> file.getFileName().toString()).filter(file -> file.endsWith("Test.java")).toList()) {
                String test = name.substring(0, name.length() - 5);
                Checks.due("README.md tells of " + test, readme.contains("`" + test + "`:") ? 1 : 0, 1);
            }
        }
    }
}
