import java.io.IOException;
import java.nio.charset.StandardCharsets;
import java.nio.file.Files;
import java.nio.file.Path;
import java.nio.file.Paths;
import java.util.ArrayList;
import java.util.List;
import java.util.TreeSet;
import java.util.function.Predicate;

/**
 * Checks by the sentence of ../shared/DOC.md that they look at. At the end it tells the quotes that do not stand
 * in the document, and the sentences of it that no check looks at; so the tests run from the project's folder.
 */
final class Sentences {
    interface Part {
        void run();
    }

    private static final Path DOC = Paths.get("../shared/DOC.md");
    private static final int PROMISES = 20;

    private final Checks checks;
    private final TreeSet<String> lines = new TreeSet<String>();
    private final TreeSet<String> terms = new TreeSet<String>();

    Sentences(Checks checks) {
        this.checks = checks;
    }

    /** A line of a promise: what a call does, a bullet, "Returns ..", or "Throws ..". */
    void promise(int number, String line, Part part) {
        lines.add(number + " " + line);
        look("promise " + number + ", \"" + line + "\"", part);
    }

    /** A sentence, or a part of one: of the section "Terms" mostly, or of what stands before it. */
    void term(String quote, Part part) {
        terms.add(quote);
        look("\"" + quote + "\"", part);
    }

    private void look(String about, Part part) {
        checks.about(about);
        int before = checks.made();
        part.run();
        if (checks.made() == before) {
            checks.tell("no check looks at it");
        }
    }

    /** Of the lines of all promises, those that this test is for must have been looked at, and no others. */
    void endOfPromises(Predicate<String> isForThisTest) {
        checks.about("the document");
        String doc = document();
        TreeSet<String> due = new TreeSet<String>();
        for (int number = 1; number <= PROMISES && !doc.isEmpty(); number++) {
            for (String line : linesOf(section(doc, "## Promise " + number + ":"))) {
                if (isForThisTest.test(line)) {
                    due.add(number + " " + line);
                }
            }
        }
        if (!doc.isEmpty()) {
            compare(due);
        }
        checks.end();
    }

    private void compare(TreeSet<String> due) {
        for (String line : due) {
            checks.isTrue("no test looks at promise " + line, lines.contains(line));
        }
        for (String line : lines) {
            checks.isTrue("it does not say promise " + line, due.contains(line));
        }
    }

    /** Each sentence of the terms, but for those that say nothing of a limit, must have been looked at. */
    void endOfTerms(String... beginningsOfOthers) {
        checks.about("the document");
        String doc = document();
        if (!doc.isEmpty()) {
            String text = String.join(" ", section(doc, "## Terms"));
            String whole = doc.replaceAll("\\s+", " ");
            for (String quote : terms) {
                checks.isTrue("it does not say " + quote, whole.contains(quote));
            }
            for (String sentence : text.split("(?<=\\.)\\s+(?=[A-Z])")) {
                boolean isOther = false;
                for (String beginning : beginningsOfOthers) {
                    isOther |= sentence.startsWith(beginning);
                }
                checks.isTrue("no test looks at: " + sentence, isOther || isLookedAt(sentence));
            }
        }
        checks.end();
    }

    private boolean isLookedAt(String sentence) {
        for (String quote : terms) {
            if (sentence.contains(quote)) {
                return true;
            }
        }
        return false;
    }

    private static List<String> section(String doc, String heading) {
        List<String> found = new ArrayList<String>();
        boolean isInside = false;
        for (String line : doc.split("\n")) {
            if (line.startsWith("## ")) {
                isInside = line.startsWith(heading);
            } else if (isInside && !line.trim().isEmpty()) {
                found.add(line.trim());
            }
        }
        return found;
    }

    /** The first line is the call itself, and behind it what it does. */
    private static List<String> linesOf(List<String> section) {
        List<String> found = new ArrayList<String>(section);
        found.set(0, found.get(0).substring(found.get(0).indexOf("`: ") + 3));
        return found;
    }

    private static String document() {
        if (!Files.exists(DOC)) {
            System.out.println(DOC + " is not here: the quotes are not compared with it");
            return "";
        }
        try {
            return new String(Files.readAllBytes(DOC), StandardCharsets.UTF_8);
        } catch (IOException e) {
            throw new IllegalStateException(e);
        }
    }
}
