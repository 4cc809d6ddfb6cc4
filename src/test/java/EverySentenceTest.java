import java.io.IOException;
import java.lang.reflect.Method;
import java.lang.reflect.Modifier;
import java.nio.file.DirectoryStream;
import java.nio.file.Files;
import java.nio.file.Path;
import java.util.ArrayList;
import java.util.List;

/** Each promise and each part of the terms has tests, and no test is left out because of how it is named. */
public final class EverySentenceTest {
    private static final String[] PARTS_OF_TERMS = {"terms1_", "terms2_", "terms3_", "termsAnswers_"};

    public static void main(String[] args) throws IOException, ClassNotFoundException {
        List<String> names = new ArrayList<>();
        try (DirectoryStream<Path> files = Files.newDirectoryStream(Path.of("src/test/java"),
                "{Promises,Terms}*Test.java")) {
            for (Path file : files) {
                addNames(names, Class.forName(file.getFileName().toString().replace(".java", "")));
            }
        }
        for (int promise = 1; promise <= 22; promise++) {
            hasTests(names, "promise" + promise + "_");
        }
        for (String part : PARTS_OF_TERMS) {
            hasTests(names, part);
        }
        Check.finish();
    }

    private static void addNames(List<String> names, Class<?> tests) {
        List<Method> sentences = Sentences.of(tests);
        for (Method method : tests.getDeclaredMethods()) {
            boolean isHelper = Modifier.isPrivate(method.getModifiers()) || method.getName().equals("main");
            Check.isTrue(method + " is run", isHelper || sentences.contains(method));
        }
        for (Method method : sentences) {
            names.add(method.getName());
        }
    }

    private static void hasTests(List<String> names, String start) {
        boolean found = false;
        for (String name : names) {
            found |= name.startsWith(start);
        }
        Check.isTrue("a test's name begins with " + start, found);
    }
}
