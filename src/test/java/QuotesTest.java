import java.io.IOException;
import java.nio.charset.StandardCharsets;
import java.nio.file.Files;
import java.nio.file.Path;
import java.util.Set;
import java.util.TreeMap;
import java.util.TreeSet;

/**
 * Looks into the document: each sentence that an edge test bears must stand there, in the part that it tells, and each
 * sentence that tells an exception, or the range of a parameter, must be borne by a test.
 */
final class QuotesTest {
    private QuotesTest() {
    }

    static void run(String project) {
        Check.group("the quotes of the document");
        Check.holds("there are quotes", Edge.QUOTES.size() > 200);
        String document;
        try {
            document = Files.readString(Path.of(project, "..", "shared", "DOC.md"), StandardCharsets.UTF_8);
        } catch (IOException e) {
            // Where only the tests are shared, the quotes can't be looked up; that is no fault of the program.
            System.out.println("not looked up, as the document is not there: " + Edge.QUOTES.size() + " quotes");
            return;
        }
        TreeMap<String, String> parts = parts(document);
        Check.holds("43 promises", parts.containsKey("Promise 43") && !parts.containsKey("Promise 44"));
        Set<String> quoted = new TreeSet<>();
        for (String quote : Edge.QUOTES) {
            int bar = quote.indexOf('|');
            String part = quote.substring(0, bar);
            String sentence = quote.substring(bar + 1);
            Check.holds(part + " says: " + sentence, parts.getOrDefault(part, "").contains(sentence));
            quoted.add(quote);
        }
        for (String part : parts.keySet()) {
            for (String line : parts.get(part).split("\n")) {
                if (part.startsWith("Promise") && (line.startsWith("Throws `") || isRange(line) || isEdge(line))) {
                    String sentence = line.startsWith("- ") ? line.substring(2) : line;
                    Check.holds("a test of " + part + ": " + sentence, quoted.contains(part + "|" + sentence));
                }
            }
        }
    }

    /** A parameter's line that names numbers, or what it may be beyond what is usual. */
    private static boolean isRange(String line) {
        return line.startsWith("- `") && line.matches(".*(\\d|any |not |at most).*");
    }

    /** A line on the answer that names a case of its own. */
    private static boolean isEdge(String line) {
        return line.startsWith("Returns ") && line.matches(".*(out of the bounds|or more|from 1 on|without|always|NONE|of 2 ).*");
    }

    /** The promises by "Promise n", the terms by their headings, the other parts by theirs. */
    private static TreeMap<String, String> parts(String document) {
        TreeMap<String, String> parts = new TreeMap<>();
        String name = "";
        StringBuilder text = new StringBuilder();
        for (String line : document.split("\n")) {
            if (line.startsWith("## ") || line.startsWith("==== ")) {
                parts.put(name, text.toString());
                text.setLength(0);
                name = line.replaceFirst("^(## |==== )", "").replaceFirst("^(Promise \\d+):.*", "$1");
            }
            text.append(line).append('\n');
        }
        parts.put(name, text.toString());
        return parts;
    }
}
