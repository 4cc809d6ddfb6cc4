import java.lang.reflect.InvocationTargetException;
import java.lang.reflect.Method;
import java.util.ArrayList;
import java.util.Comparator;
import java.util.List;

/**
 * Runs the tests of a class that stand for one sentence of the document each: its static methods whose names
 * begin with 'promise' or 'terms', then the number, then '_' and the case.
 */
final class Sentences {
    private Sentences() {
    }

    static List<Method> of(Class<?> tests) {
        List<Method> found = new ArrayList<>();
        for (Method method : tests.getDeclaredMethods()) {
            if (method.getName().matches("(promise[0-9]+|terms[0-9A-Z][a-z]*)_.+")) {
                found.add(method);
            }
        }
        found.sort(Comparator.comparing(Method::getName));
        return found;
    }

    static void run(Class<?> tests) throws ReflectiveOperationException {
        List<Method> methods = of(tests);
        for (Method method : methods) {
            Check.begin(method.getName());
            try {
                method.invoke(null);
            } catch (InvocationTargetException thrown) {
                Check.isTrue("it ends without " + thrown.getCause(), false);
            }
        }
        System.out.println(methods.size() + " sentences");
        Check.finish();
    }
}
