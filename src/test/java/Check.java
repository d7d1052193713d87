/** Counts checks and prints those that fail; a test's main method ends with end(). */
final class Check {
    private static int good = 0;
    private static int bad = 0;
    private static String part = "";

    private Check() {
    }

    static void part(String name) {
        part = name;
    }

    static void due(String what, long got, long want) {
        if (got == want) {
            good++;
            return;
        }
        bad++;
        if (bad <= 50) {
            System.out.println(part + ": " + what + " answered " + got + ", due is " + want);
        }
    }

    static void holds(String what, boolean condition) {
        due(what, condition ? 1 : 0, 1);
    }

    static void end() {
        System.out.println(good + " checks as due, " + bad + " not");
        if (bad != 0) {
            System.exit(1);
        }
    }
}
