/** Counts the answers that are not the ones due, and prints each of them under the test that asked. */
final class Check {
    private static String test = "";
    private static int asked = 0;
    private static int wrong = 0;

    private Check() {
    }

    /** What is asked from now on belongs to this test. */
    static void begin(String name) {
        test = name + ": ";
    }

    static void due(String call, long got, long want) {
        asked++;
        if (got != want) {
            tell(call + " answered " + got + ", due is " + want);
        }
    }

    static void isTrue(String statement, boolean holds) {
        asked++;
        if (!holds) {
            tell("not so: " + statement);
        }
    }

    private static void tell(String what) {
        wrong++;
        System.out.println(test + what);
    }

    static void finish() {
        System.out.println(asked + " asked, " + wrong + " wrong");
        if (wrong != 0) {
            System.exit(1);
        }
    }
}
