import java.lang.reflect.Field;
import java.lang.reflect.Member;
import java.lang.reflect.Method;
import java.lang.reflect.Modifier;
import java.util.ArrayList;
import java.util.Arrays;
import java.util.List;
import java.util.TreeSet;

/** The public face of the document, and the classes and fields that the language leaves beside it. */
public final class FaceTest {
    private static final List<String> METHODS = List.of("setRoom(int)", "plan(int,int)", "readPlan()", "write()",
        "pull(int)", "pin(int,boolean)", "wipe(int)", "photo(int)", "ask(int)", "type(char)", "clearText()", "undo()",
        "keep()", "restore()", "panel(int,int)", "step(int,int)", "photoOf(int,int)", "wouldBe(int)",
        "photosNeeded()", "count(int)");
    private static final List<String> CONSTANTS = List.of("UNKNOWN", "BAD_VALUE", "FULL", "NOT_POSSIBLE", "NONE");

    public static void main(String[] args) {
        face();
        classes();
        Check.end();
    }

    private static void face() {
        Check.part("face");
        int modifiers = PulledPanels.class.getModifiers();
        Check.holds("public and final", Modifier.isPublic(modifiers) && Modifier.isFinal(modifiers));
        Check.due("constructors", PulledPanels.class.getDeclaredConstructors().length, 1);
        Check.due("public constructors", PulledPanels.class.getConstructors().length, 1);
        TreeSet<String> open = new TreeSet<>();
        for (Method method : PulledPanels.class.getDeclaredMethods()) {
            if (!Modifier.isPrivate(method.getModifiers())) {
                open.add(signature(method));
                Check.holds(method + " is public", Modifier.isPublic(method.getModifiers()));
                Check.holds(method + " returns an int", method.getReturnType() == int.class);
            } else {
                Check.holds(method + " bears no public name", !bearsPublicName(method));
            }
        }
        Check.holds("the methods are " + METHODS, open.equals(new TreeSet<>(METHODS)));
        TreeSet<String> constants = new TreeSet<>();
        for (Field field : PulledPanels.class.getDeclaredFields()) {
            if (!Modifier.isPrivate(field.getModifiers())) {
                constants.add(field.getName());
                Check.holds(field + " is a public int", Modifier.isPublic(field.getModifiers()) && field.getType() == int.class);
            }
        }
        Check.holds("the constants are " + CONSTANTS, constants.equals(new TreeSet<>(CONSTANTS)));
        Check.due("UNKNOWN", PulledPanels.UNKNOWN, -1);
        Check.due("BAD_VALUE", PulledPanels.BAD_VALUE, -2);
        Check.due("FULL", PulledPanels.FULL, -3);
        Check.due("NOT_POSSIBLE", PulledPanels.NOT_POSSIBLE, -4);
        Check.due("NONE", PulledPanels.NONE, -5);
    }

    private static String signature(Method method) {
        StringBuilder text = new StringBuilder(method.getName()).append('(');
        for (Class<?> type : method.getParameterTypes()) {
            text.append(text.charAt(text.length() - 1) == '(' ? "" : ",").append(type.getName());
        }
        return text.append(')').toString();
    }

    private static void classes() {
        Check.part("classes");
        List<Class<?>> all = new ArrayList<>(Arrays.asList(PulledPanels.class.getDeclaredClasses()));
        for (Class<?> inside : all) {
            Check.holds(inside + " is static", Modifier.isStatic(inside.getModifiers()));
            Check.holds(inside + " is not public", !Modifier.isPublic(inside.getModifiers()));
            Check.due(inside + " has classes of its own", inside.getDeclaredClasses().length, 0);
            for (Method method : inside.getDeclaredMethods()) {
                Check.holds(method + " bears no public name", !bearsPublicName(method));
            }
        }
        all.add(PulledPanels.class);
        Check.holds("some twelve classes", all.size() <= 12);
        for (Class<?> each : all) {
            long fields = Arrays.stream(each.getDeclaredFields()).filter(f -> !isConstant(f)).count();
            Check.holds(each + " has some twenty fields", fields <= 20);
            for (Field field : each.getDeclaredFields()) {
                Check.holds(field + " is final if static", isConstant(field) || !Modifier.isStatic(field.getModifiers()));
            }
            for (Method method : each.getDeclaredMethods()) {
                Check.holds(method + " has at most seven parameters", method.getParameterCount() <= 7);
            }
        }
    }

    private static boolean bearsPublicName(Method method) {
        return METHODS.stream().anyMatch(m -> m.startsWith(method.getName() + "("));
    }

    private static boolean isConstant(Member member) {
        return Modifier.isStatic(member.getModifiers()) && Modifier.isFinal(member.getModifiers());
    }
}
