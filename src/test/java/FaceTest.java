import java.io.IOException;
import java.lang.reflect.Constructor;
import java.lang.reflect.Field;
import java.lang.reflect.Method;
import java.lang.reflect.Modifier;
import java.nio.file.Files;
import java.nio.file.Path;
import java.util.ArrayList;
import java.util.Arrays;
import java.util.List;
import java.util.Set;
import java.util.TreeSet;
import java.util.regex.Matcher;
import java.util.regex.Pattern;

/** The class's face is the document's and nothing else, and its text keeps to the rules that a text shows. */
public final class FaceTest {
    private static final String[] METHODS = {
        "int plug(int,int,int)", "int knob(int,boolean)", "int mount(int,int)", "int share(int,int)",
        "int width(int)", "int tap(int,int,int)", "long seen()", "int dial(int,int,int,long)",
        "int lay(int,int,int)", "int row(int,int,int)", "int what(int,int)", "int inner(int,int,int,int)",
        "int enter(int,int,int,int,long)", "int cable(int,int,int,int,int,int,int,int)", "int in(int)",
        "int out(int)", "int tick(int)", "int told(int,int)", "int level(int)", "int gain(int)", "int about(int)"};

    private static final String[] FORBIDDEN = {"\\bthrow\\b", "\\btry\\b", "\\bcatch\\b", "\\bassert\\b",
        "\\bsynchronized\\b", "->", "::", "\\bimport\\b", "\\bpackage\\b", "\\bprotected\\b", "\\bObject\\b",
        "\\bfloat\\b", "\\bdouble\\b", "\"", "@"};

    /** All that the program uses of the library that rule 4 leaves. */
    private static final Set<String> LIBRARY = Set.of("Long.numberOfLeadingZeros");

    private static final int LONGEST_METHOD = 60;

    public static void main(String[] args) throws IOException {
        constants();
        publicMethods();
        nothingElseIsSeen();
        String code = codeWithoutComments();
        noForbiddenWord(code);
        libraryIsTheListedOne(code);
        methodsAreShort(code);
        Check.finish();
    }

    private static void constants() {
        Check.due("NONE", CordBoard.NONE, -1);
        Check.due("UNKNOWN", CordBoard.UNKNOWN, -101);
        Check.due("OUTSIDE", CordBoard.OUTSIDE, -102);
        Check.due("FULL", CordBoard.FULL, -103);
        Check.isTrue("public and final", Modifier.isPublic(CordBoard.class.getModifiers())
                && Modifier.isFinal(CordBoard.class.getModifiers()));
    }

    private static void publicMethods() {
        Set<String> found = new TreeSet<>();
        for (Method method : CordBoard.class.getDeclaredMethods()) {
            if (!Modifier.isPrivate(method.getModifiers())) {
                found.add(signature(method));
            }
        }
        Set<String> want = new TreeSet<>(Arrays.asList(METHODS));
        Check.isTrue("the methods are " + want + ", but they are " + found, want.equals(found));
    }

    private static String signature(Method method) {
        List<String> types = new ArrayList<>();
        for (Class<?> type : method.getParameterTypes()) {
            types.add(type.getSimpleName());
        }
        return method.getReturnType().getSimpleName() + " " + method.getName()
                + "(" + String.join(",", types) + ")";
    }

    private static void nothingElseIsSeen() {
        Constructor<?>[] constructors = CordBoard.class.getDeclaredConstructors();
        Check.due("constructors", constructors.length, 1);
        Check.isTrue("the constructor is public", Modifier.isPublic(constructors[0].getModifiers()));
        Set<String> fields = new TreeSet<>();
        for (Field field : CordBoard.class.getDeclaredFields()) {
            if (!Modifier.isPrivate(field.getModifiers())) {
                fields.add(field.getName());
            }
        }
        Check.isTrue("four constants, but: " + fields, fields.toString().equals("[FULL, NONE, OUTSIDE, UNKNOWN]"));
        Set<String> names = new TreeSet<>();
        for (String method : METHODS) {
            names.add(method.substring(method.indexOf(' ') + 1, method.indexOf('(')));
        }
        privateNamesDiffer(CordBoard.class, names);
        Class<?>[] inside = CordBoard.class.getDeclaredClasses();
        Check.isTrue("at most twelve classes", inside.length < 12);
        for (Class<?> own : inside) {
            Check.isTrue(own + " is static", Modifier.isStatic(own.getModifiers()));
            Check.isTrue(own + " is not public", !Modifier.isPublic(own.getModifiers()));
            privateNamesDiffer(own, names);
        }
    }

    private static void privateNamesDiffer(Class<?> type, Set<String> names) {
        for (Method method : type.getDeclaredMethods()) {
            boolean isFace = type == CordBoard.class && Modifier.isPublic(method.getModifiers());
            Check.isTrue(method + " bears no public name", isFace || !names.contains(method.getName()));
            Check.isTrue(method + " has at most seven parameters", isFace || method.getParameterCount() <= 7);
        }
        for (Field field : type.getDeclaredFields()) {
            int modifiers = field.getModifiers();
            Check.isTrue(field + " is no static state", !Modifier.isStatic(modifiers) || Modifier.isFinal(modifiers));
        }
    }

    private static String codeWithoutComments() throws IOException {
        String text = Files.readString(Path.of("src/main/java/CordBoard.java"));
        return text.replaceAll("(?s)/\\*.*?\\*/", "").replaceAll("//[^\n]*", "");
    }

    private static void noForbiddenWord(String code) {
        for (String word : FORBIDDEN) {
            Check.isTrue("no " + word, !Pattern.compile(word).matcher(code).find());
        }
    }

    private static void libraryIsTheListedOne(String code) {
        Set<String> own = new TreeSet<>();
        for (Class<?> inside : CordBoard.class.getDeclaredClasses()) {
            own.add(inside.getSimpleName());
        }
        Matcher use = Pattern.compile("\\b([A-Z]\\w*[a-z]\\w*)\\.(\\w+)").matcher(code);
        while (use.find()) {
            Check.isTrue(use.group() + " is of the library that is left",
                    own.contains(use.group(1)) || LIBRARY.contains(use.group()));
        }
    }

    /** A method begins with a line that ends in ') {' at four or eight blanks, and ends at the same ones. */
    private static void methodsAreShort(String code) {
        Matcher method = Pattern.compile("(?ms)^(    |        )(\\w[^;{}\\n]*\\)) \\{$.*?^\\1\\}$").matcher(code);
        int found = 0;
        while (method.find()) {
            if (method.group(2).matches("(if|for|switch|while) .*")) {
                continue;
            }
            found++;
            long lines = method.group().lines().count();
            Check.isTrue(method.group(2) + " has " + lines + " lines", lines <= LONGEST_METHOD);
        }
        Check.isTrue("the methods are found in the text, " + found, found > METHODS.length);
    }
}
