import java.io.IOException;
import java.lang.reflect.Method;
import java.lang.reflect.Modifier;
import java.nio.file.DirectoryStream;
import java.nio.file.Files;
import java.nio.file.Path;
import java.util.regex.Matcher;
import java.util.regex.Pattern;

/** README.md tells the class as it is: its examples answer what they say, no call and no test is left out. */
public final class ReadmeTest {
    private static final Pattern EXAMPLES = Pattern.compile("(?s)```java\n(.*?)```");
    private static final Pattern CALL = Pattern.compile("desk\\.(\\w+)\\((.*?)\\); +// (-?\\d+): .+");
    private static final String FIRST = "CordBoard desk = new CordBoard();";

    private final CordBoard desk = new CordBoard();
    private int calls;

    public static void main(String[] args) throws IOException, ReflectiveOperationException {
        String text = Files.readString(Path.of("README.md"));
        new ReadmeTest().runExamples(text);
        everyCallIsNamed(text);
        everyTestIsNamed(text);
        Check.finish();
    }

    /** The examples go on with one desk, and behind each call stands its answer. */
    private void runExamples(String text) throws ReflectiveOperationException {
        Matcher examples = EXAMPLES.matcher(text);
        while (examples.find()) {
            for (String line : examples.group(1).split("\n")) {
                if (!line.isBlank() && !line.equals(FIRST)) {
                    runLine(line);
                }
            }
        }
        Check.isTrue("there are examples, and at most 512 calls: " + calls, calls > 0 && calls <= 512);
    }

    private void runLine(String line) throws ReflectiveOperationException {
        Matcher call = CALL.matcher(line);
        Check.isTrue("a call with its answer: " + line, call.matches());
        if (call.matches()) {
            calls++;
            Check.due(line, answer(call.group(1), call.group(2)), Long.parseLong(call.group(3)));
        }
    }

    private long answer(String name, String given) throws ReflectiveOperationException {
        Method method = methodNamed(name);
        Class<?>[] types = method.getParameterTypes();
        Object[] arguments = new Object[types.length];
        String[] words = given.isEmpty() ? new String[0] : given.split(", ");
        Check.due(name + ": how many arguments", words.length, types.length);
        for (int n = 0; n < types.length; n++) {
            arguments[n] = types[n] == boolean.class ? (Object) Boolean.valueOf(words[n])
                    : types[n] == long.class ? (Object) Long.decode(words[n]) : Integer.decode(words[n]);
        }
        return ((Number) method.invoke(desk, arguments)).longValue();
    }

    private static Method methodNamed(String name) throws NoSuchMethodException {
        for (Method method : CordBoard.class.getDeclaredMethods()) {
            if (method.getName().equals(name) && Modifier.isPublic(method.getModifiers())) {
                return method;
            }
        }
        throw new NoSuchMethodException(name);
    }

    private static void everyCallIsNamed(String text) {
        for (Method method : CordBoard.class.getDeclaredMethods()) {
            if (Modifier.isPublic(method.getModifiers())) {
                Check.isTrue("a row tells of " + method.getName(), text.contains("\n| `" + method.getName() + "("));
            }
        }
    }

    private static void everyTestIsNamed(String text) throws IOException {
        try (DirectoryStream<Path> files = Files.newDirectoryStream(Path.of("src/test/java"), "*Test.java")) {
            for (Path file : files) {
                String name = file.getFileName().toString().replace(".java", "");
                Check.isTrue(name + " is told of", text.contains("`" + name + "`"));
            }
        }
    }
}
