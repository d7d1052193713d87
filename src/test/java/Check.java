import java.lang.reflect.Method;
import java.util.Map;
import java.util.TreeMap;

/** Counts checks and prints those that fail; a test's main method ends with end(). */
final class Check {
    private static int good = 0;
    private static int bad = 0;
    private static String part = "";

    private Check() {
    }

    static void part(String name) {
        part = name;
    }

    static void due(String what, long got, long want) {
        if (got == want) {
            good++;
            return;
        }
        bad++;
        if (bad <= 50) {
            System.out.println(part + ": " + what + " answered " + got + ", due is " + want);
        }
    }

    static void holds(String what, boolean condition) {
        due(what, condition ? 1 : 0, 1);
    }

    /** Runs all methods of the class that are named after a promise, so that none is left out of a list. */
    static void promises(Class<?> tests) throws ReflectiveOperationException {
        Map<String, Method> named = new TreeMap<>();
        for (Method method : tests.getDeclaredMethods()) {
            if (method.getName().startsWith("promise")) {
                named.put(method.getName(), method);
            }
        }
        for (Method method : named.values()) {
            int before = good + bad;
            method.setAccessible(true);
            method.invoke(null);
            holds(method.getName() + " checks something", good + bad > before);
        }
    }

    static void end() {
        System.out.println(good + " checks as due, " + bad + " not");
        if (bad != 0) {
            System.exit(1);
        }
    }
}
