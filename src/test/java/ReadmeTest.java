import java.lang.reflect.Method;
import java.lang.reflect.Modifier;
import java.nio.charset.StandardCharsets;
import java.nio.file.Files;
import java.nio.file.Paths;
import java.util.HashMap;
import java.util.Map;
import java.util.regex.Matcher;
import java.util.regex.Pattern;

/** Runs the example of README.md line by line, and compares its answers; run from the project's folder. */
public final class ReadmeTest {
    private static final String BEGIN = "Bidwhistle game = new Bidwhistle();";
    private static final Pattern CALL = Pattern.compile("(?:int (\\w+) = )?game\\.(\\w+)\\(([^)]*)\\);\\s+// (\\S+)");

    private static final Checks CHECKS = new Checks();
    private static final Map<String, Object> NAMES = new HashMap<String, Object>();

    public static void main(String[] args) throws Exception {
        String readme = new String(Files.readAllBytes(Paths.get("README.md")), StandardCharsets.UTF_8);
        int begin = readme.indexOf(BEGIN);
        CHECKS.isTrue("README.md has an example", begin >= 0);
        if (begin >= 0) {
            runExample(readme.substring(begin + BEGIN.length(), readme.indexOf("```", begin)));
        }
        for (Method method : Bidwhistle.class.getDeclaredMethods()) {
            if (Modifier.isPublic(method.getModifiers())) {
                CHECKS.isTrue("README.md tells of " + method.getName(), readme.contains("`" + method.getName() + "`"));
            }
        }
        CHECKS.end();
    }

    private static void runExample(String example) throws Exception {
        Bidwhistle game = new Bidwhistle();
        for (String line : example.split("\n")) {
            if (!line.trim().isEmpty() && !line.startsWith("//")) {
                Matcher call = CALL.matcher(line);
                CHECKS.isTrue("a call with its answer is: " + line, call.matches());
                if (call.matches()) {
                    runCall(game, line, call);
                }
            }
        }
    }

    private static void runCall(Bidwhistle game, String line, Matcher call) throws Exception {
        String[] written = call.group(3).isEmpty() ? new String[0] : call.group(3).split(",\\s*");
        Object[] values = new Object[written.length];
        for (int i = 0; i < written.length; i++) {
            values[i] = valueOf(written[i]);
        }
        Object answer = methodOf(call.group(2)).invoke(game, values);
        if (call.group(1) != null) {
            NAMES.put(call.group(1), answer);
        }
        CHECKS.isTrue(answer + " is the answer of: " + line, String.valueOf(answer).equals(call.group(4)));
    }

    private static Method methodOf(String name) {
        for (Method method : Bidwhistle.class.getMethods()) {
            if (method.getName().equals(name)) {
                return method;
            }
        }
        throw new IllegalStateException("no call " + name);
    }

    private static Object valueOf(String written) throws Exception {
        if (written.startsWith("Bidwhistle.")) {
            return Bidwhistle.class.getField(written.substring("Bidwhistle.".length())).get(null);
        }
        if (written.equals("true") || written.equals("false")) {
            return Boolean.valueOf(written);
        }
        return NAMES.containsKey(written) ? NAMES.get(written) : Integer.valueOf(written);
    }
}
