import java.lang.reflect.Executable;
import java.lang.reflect.Field;
import java.lang.reflect.Method;
import java.lang.reflect.Modifier;
import java.nio.file.Files;
import java.nio.file.Path;
import java.util.List;
import java.util.regex.Matcher;
import java.util.regex.Pattern;

/** The rules of LANGUAGE.md that the text of the class, and its shape, show at a glance. */
final class LanguageTest {
    private static final String[] RULED_OUT = {
        "(?m)^\\s*import\\b", "(?m)^\\s*package\\b", "->", "::", "\\btry\\b", "\\bcatch\\b",
        "\\bfinally\\b", "\\bsynchronized\\b", "\\bassert\\b", "\\bstatic\\s*\\{", "\\bprotected\\b",
        "\\bSystem\\b", "Exact\\b", "\"\\s*\\+|\\+\\s*\"", "\\bhashCode\\b", "\\btoString\\b",
        "\\bThread\\b", "\\bObject\\b",
    };

    static void run(Checks checks, String source) throws Exception {
        String code = withoutComments(Files.readString(Path.of(source)));
        for (String pattern : RULED_OUT) {
            Matcher found = Pattern.compile(pattern).matcher(code);
            checks.same("the class holds " + pattern, found.find() ? found.group() : null, null);
        }
        Matcher thrown = Pattern.compile("\\bthrow\\s+(?!new (IndexOutOfBounds|IllegalArgument"
                + "|IllegalState)Exception\\(\"[^\"]*\"\\);)").matcher(code);
        checks.same("throws are of the document's classes", thrown.find(), false);
        checks.same("signs are ASCII", code.chars().allMatch(sign -> sign < 128), true);
        Class<?>[] inside = CrewPay.class.getDeclaredClasses();
        checks.same("at most twelve classes", 1 + inside.length <= 12, true);
        shape(checks, CrewPay.class);
        for (Class<?> each : inside) {
            shape(checks, each);
        }
    }

    private static void shape(Checks checks, Class<?> each) {
        int ownFields = 0;
        for (Field field : each.getDeclaredFields()) {
            boolean isStatic = Modifier.isStatic(field.getModifiers());
            ownFields += isStatic ? 0 : 1;
            checks.same(field + ": static ones are final constants",
                    !isStatic || Modifier.isFinal(field.getModifiers()) && isConstant(field), true);
            checks.same(field + ": others are hidden", isStatic || each != CrewPay.class
                    || Modifier.isPrivate(field.getModifiers()), true);
        }
        checks.same(each + " has at most twenty fields", ownFields <= 20, true);
        for (Method method : each.getDeclaredMethods()) {
            parameters(checks, method);
            checks.same(method + " is none of Object's", method.getName()
                    .matches("equals|hashCode|toString|finalize|clone"), false);
        }
        for (Executable constructor : each.getDeclaredConstructors()) {
            parameters(checks, constructor);
        }
    }

    private static boolean isConstant(Field field) {
        Class<?> type = field.getType();
        return List.of(int.class, long.class, boolean.class, char.class, String.class, int[].class,
                long[].class, char[].class, byte[].class).contains(type);
    }

    private static void parameters(Checks checks, Executable called) {
        checks.same(called + " has at most seven parameters", called.getParameterCount() <= 7, true);
    }

    private static String withoutComments(String text) {
        return text.replaceAll("(?s)/\\*.*?\\*/", "").replaceAll("//[^\n]*", "");
    }
}
