import java.lang.reflect.Constructor;
import java.lang.reflect.Field;
import java.lang.reflect.Method;
import java.lang.reflect.Modifier;
import java.util.Arrays;
import java.util.TreeSet;

/** The class shows the document's face and nothing else. */
final class FaceTest {
    private static final String INDEX = "IndexOutOfBoundsException";
    private static final String ARGUMENT = "IllegalArgumentException";
    private static final String STATE = "IllegalStateException";

    static void run(Checks checks) throws Exception {
        Class<?> face = CrewPay.class;
        checks.same("modifiers", Modifier.toString(face.getModifiers()), "public final");
        constants(checks, face);
        for (Constructor<?> made : face.getDeclaredConstructors()) {
            checks.same("constructor", made.toString(), "public CrewPay()");
        }
        methods(checks, face);
        for (Class<?> inside : face.getDeclaredClasses()) {
            int modifiers = inside.getModifiers();
            checks.same(inside + " is hidden and static",
                    Modifier.isStatic(modifiers) && !Modifier.isPublic(modifiers)
                            && !Modifier.isProtected(modifiers), true);
        }
    }

    private static void constants(Checks checks, Class<?> face) throws Exception {
        TreeSet<String> seen = new TreeSet<>();
        for (Field field : face.getDeclaredFields()) {
            if (!Modifier.isPrivate(field.getModifiers())) {
                seen.add(field.toString().replace("CrewPay.", "") + " = " + field.get(null));
            }
        }
        String head = "public static final int ";
        checks.same("constants", seen, new TreeSet<>(Arrays.asList(head + "NONE = -1",
                head + "GROSS = 0", head + "TAKEN_BACK = 1", head + "GARNISHED = 2",
                head + "PAID_OUT = 3")));
    }

    private static void methods(Checks checks, Class<?> face) {
        TreeSet<String> seen = new TreeSet<>();
        TreeSet<String> hidden = new TreeSet<>();
        for (Method method : face.getDeclaredMethods()) {
            if (Modifier.isPrivate(method.getModifiers())) {
                hidden.add(method.getName());
            } else {
                seen.add(method.toString().replace("CrewPay.", "").replace("java.lang.", ""));
            }
        }
        TreeSet<String> want = new TreeSet<>(Arrays.asList(
                method("addWorker", 1, INDEX, STATE), method("setRank", 3, INDEX, ARGUMENT),
                method("setRates", 4, INDEX, ARGUMENT), method("come", 5, INDEX, ARGUMENT),
                method("correct", 4, INDEX, ARGUMENT), method("acknowledged", 1, INDEX),
                method("due", 2, INDEX, ARGUMENT), method("order", 4, INDEX, ARGUMENT, STATE),
                method("left", 1, INDEX), method("setFloor", 1, ARGUMENT),
                method("fill", 2, INDEX, ARGUMENT, STATE), method("bounce", 1, INDEX, STATE),
                method("pot", 1, INDEX), method("shortage", 1, INDEX), method("close", 0, STATE),
                method("week", 0), method("slip", 3, INDEX, ARGUMENT),
                method("toTakeBack", 1, INDEX), method("claim", 1, INDEX),
                method("claimBySlips", 1, INDEX)));
        checks.same("methods", seen, want);
        for (String name : hidden) {
            for (Method method : face.getMethods()) {
                checks.same(name + " is no public name too", method.getName().equals(name), false);
            }
        }
    }

    private static String method(String name, int parameters, String... thrown) {
        String text = "public int " + name + "(" + "int,".repeat(parameters);
        text = (parameters == 0 ? text : text.substring(0, text.length() - 1)) + ")";
        return thrown.length == 0 ? text : text + " throws " + String.join(",", thrown);
    }
}
