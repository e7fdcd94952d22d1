import java.nio.charset.StandardCharsets;
import java.nio.file.Files;
import java.nio.file.Paths;
import java.util.Arrays;
import java.util.List;
import java.util.regex.Matcher;
import java.util.regex.Pattern;

/** The rules of ../shared/LANGUAGE.md that can be seen in the text of the class; run from the project's folder. */
public final class LanguageTest {
    private static final List<String> IMPORTS = Arrays.asList("java.util.ArrayList", "java.util.List");
    private static final List<String> THROWN = Arrays.asList("IllegalStateException", "IllegalArgumentException",
            "IndexOutOfBoundsException");
    private static final int LONGEST_METHOD = 60;

    /** What these find stands nowhere in the class, its comments left out. */
    private static final String[] RULED_OUT = {
        "->", "::", "\\bassert\\b", "\\bsynchronized\\b", "\\bfinally\\b", "\\btry\\b", "\\bcatch\\b", "\\bvar\\b",
        "\\bObject\\b", "\\b(equals|hashCode|toString)\\s*\\(", "\\bNaN\\b", "\\bSystem\\.(?!arraycopy)", "Exact\\b",
        "\\b(Random|Thread|Class|Map|HashMap|Set|Optional|Stream|Scanner)\\b", "\\bstatic\\s*\\{", "\\bpackage\\b",
        "\"\\s*\\+", "\\+\\s*\"", "\\b(protected|native|volatile|transient|strictfp)\\b", "[^\\x00-\\x7f]",
    };

    private static final Checks CHECKS = new Checks();

    public static void main(String[] args) throws Exception {
        byte[] bytes = Files.readAllBytes(Paths.get("src/main/java/Bidwhistle.java"));
        String text = new String(bytes, StandardCharsets.UTF_8);
        String code = text.replaceAll("(?s)/\\*.*?\\*/", "").replaceAll("//[^\n]*", "");
        for (String ruledOut : RULED_OUT) {
            Matcher found = Pattern.compile(ruledOut).matcher(code);
            CHECKS.isFalse("the text has " + ruledOut, found.find());
        }
        allOf(code, "import\\s+([\\w.]+);", IMPORTS);
        allOf(code, "throw new (\\w+)\\(\"[^\"]*\"\\);", THROWN);
        CHECKS.equal("each throw is of that form", count(code, "\\bthrow\\b"), count(code, "throw new \\w+\\(\"[^\"]*\"\\);"));
        CHECKS.equal("each static field is final", count(code, "\\bstatic\\s+(int|long|boolean|char|String)\\b[^(;]*;"), 0);
        CHECKS.isTrue("at most 12 classes", count(code, "\\bclass\\s+\\w+") <= 12);
        lengthsOfMethods(code);
        CHECKS.end();
    }

    private static void allOf(String code, String pattern, List<String> allowed) {
        Matcher found = Pattern.compile(pattern).matcher(code);
        while (found.find()) {
            CHECKS.isTrue(found.group(1) + " is allowed", allowed.contains(found.group(1)));
        }
    }

    private static int count(String code, String pattern) {
        Matcher found = Pattern.compile(pattern).matcher(code);
        int count = 0;
        while (found.find()) {
            count++;
        }
        return count;
    }

    /** A method begins with a line that is indented by 4 or 8 and ends with the brace that is indented alike. */
    private static void lengthsOfMethods(String code) {
        Matcher found = Pattern.compile("(?m)^(    |        )(?=\\w)[^;={}]*\\([^;{}]*\\{$(?s)(.*?)\n\\1\\}").matcher(code);
        int methods = 0;
        while (found.find()) {
            methods++;
            CHECKS.isTrue("a method of at most " + LONGEST_METHOD + " lines", count(found.group(), "\n") <= LONGEST_METHOD);
            String parameters = found.group().substring(found.group().indexOf('('), found.group().indexOf(')'));
            CHECKS.isTrue("at most 7 parameters", count(parameters, ",") < 7);
        }
        CHECKS.isTrue("methods are found", methods > 30);
    }
}
