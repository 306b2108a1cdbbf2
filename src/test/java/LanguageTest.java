import java.nio.file.Files;
import java.nio.file.Path;
import java.util.regex.Matcher;
import java.util.regex.Pattern;

/** The rules of LANGUAGE.md that the text of the class shows at a glance. */
final class LanguageTest {
    private static final String[] RULED_OUT = {
        "(?m)^\\s*import\\b", "(?m)^\\s*package\\b", "->", "::", "\\btry\\b", "\\bcatch\\b",
        "\\bfinally\\b", "\\bsynchronized\\b", "\\bassert\\b", "\\bstatic\\s*\\{", "\\bprotected\\b",
        "\\bSystem\\b", "Exact\\b", "\"\\s*\\+|\\+\\s*\"", "\\bhashCode\\b", "\\btoString\\b",
        "\\bThread\\b", "\\bObject\\b",
    };

    static void run(Checks checks, String source) throws Exception {
        String code = withoutComments(Files.readString(Path.of(source)));
        for (String pattern : RULED_OUT) {
            Matcher found = Pattern.compile(pattern).matcher(code);
            checks.same("the class holds " + pattern, found.find() ? found.group() : null, null);
        }
        Matcher thrown = Pattern.compile("\\bthrow\\s+(?!new (IndexOutOfBounds|IllegalArgument"
                + "|IllegalState)Exception\\(\"[^\"]*\"\\);)").matcher(code);
        checks.same("throws are of the document's classes", thrown.find(), false);
        checks.same("signs are ASCII", code.chars().allMatch(sign -> sign < 128), true);
    }

    private static String withoutComments(String text) {
        return text.replaceAll("(?s)/\\*.*?\\*/", "").replaceAll("//[^\n]*", "");
    }
}
