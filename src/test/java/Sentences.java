import java.io.IOException;
import java.nio.file.Files;
import java.nio.file.Path;
import java.util.Map;
import java.util.TreeMap;
import java.util.regex.Matcher;
import java.util.regex.Pattern;

/**
 * Tests named by the document's own sentences: a sentence that does not stand there fails, and so does one that
 * stands there without a test. Each sentence has a new object.
 */
abstract class Sentences extends Calls {
    private static final Path DOCUMENT = Path.of("../shared/DOC.md");
    private static final Pattern HEADING = Pattern.compile("(?m)^## (Promise \\d+|.*?)(?::.*)?$");
    private static final Pattern NO_SENTENCE = Pattern.compile("Ahead of the calls [^.]*? the interface says: ---- "
            + "\\d [a-z ,]*|```(text|java)?|========");

    /** What no test has quoted yet, by heading; empty if there is no document to look at. */
    private final Map<String, String> untested = new TreeMap<>();

    Sentences(String test) {
        super(test);
        if (Files.isReadable(DOCUMENT)) {
            readDocument();
        } else {
            System.out.println(test + ": no " + DOCUMENT + ", so the sentences are not looked up");
        }
    }

    private void readDocument() {
        try {
            String document = Files.readString(DOCUMENT);
            Matcher heading = HEADING.matcher(document);
            while (heading.find()) {
                int end = document.indexOf("\n## ", heading.end());
                String body = document.substring(heading.end(), end < 0 ? document.length() : end);
                String bare = NO_SENTENCE.matcher(body.replaceAll("\\s+", " ")).replaceAll(" ");
                untested.put(heading.group(1), bare.replaceAll("\\s+", " ").replaceFirst("^ `[^`]*`: ", " "));
            }
        } catch (IOException e) {
            check.holds(DOCUMENT + " can't be read: " + e, false);
        }
    }

    final void says(String heading, String sentence) {
        begin(heading + ", \"" + sentence + "\"");
        if (untested.isEmpty()) {
            return;
        }
        String left = untested.getOrDefault(heading, "");
        int at = left.indexOf(sentence);
        check.holds(heading + " does not say \"" + sentence + "\" (or no more)", at >= 0);
        if (at >= 0) {
            untested.put(heading, left.substring(0, at) + left.substring(at + sentence.length()));
        }
    }

    final void says(int promise, String sentence) {
        says("Promise " + promise, sentence);
    }

    final void allTested(String heading) {
        if (!untested.isEmpty()) {
            String left = untested.getOrDefault(heading, "no such heading").trim();
            check.holds(heading + " has no test of \"" + left + "\"", left.matches("[\\s.;:,]*"));
        }
    }

    final void allTested(int first, int last) {
        for (int promise = first; promise <= last; promise++) {
            allTested("Promise " + promise);
        }
    }
}
