import java.io.IOException;
import java.nio.charset.StandardCharsets;
import java.nio.file.Files;
import java.nio.file.Path;
import java.util.List;
import java.util.regex.Matcher;
import java.util.regex.Pattern;

/** Looks through the program for what ../shared/LANGUAGE.md rules out, as far as single lines show it. */
final class SourceTest {
    private static final String[] FORBIDDEN = {
        "->", "::", "synchronized", "assert ", "finally", "Exact\\(", "System\\.", "Thread", "Random", "Object\\b",
        "hashCode", "toString\\(", "equals\\(", "getMessage", "catch *\\(", "\\bnull\\b", "^package", "\\bnew [a-z]+\\[\\]",
        "\" *\\+", "\\+ *\"", "\\b(Map|Set|HashMap|Optional|Stream|Iterator|BigInteger|Locale)\\b", "String\\.format",
        "Math\\.(?!max|min|abs|floorDiv|floorMod)", "\\b(strictfp|volatile|transient|native|instanceof)\\b"};
    private static final Pattern HEAD =
        Pattern.compile("^ {4,8}(?!.*\\b(class|return|new|else)\\b)[\\w\\[\\] ]+ \\w+\\((.*?)\\).*\\{$|^ {4,8}public .*\\((.*)\\)$");
    private static final Pattern INDEX = Pattern.compile("\\b\\w+\\[([^\\]]+)\\]");
    private static final Pattern NAME = Pattern.compile("\\b[a-z]\\w*");
    private static final Pattern STATIC_FIELD = Pattern.compile("^ +(public |private )?static (?!final class)[^(]*(=|;).*$");

    private SourceTest() {
    }

    static void run(String project) {
        Check.group("the program's source");
        Path file = Path.of(project, "src", "main", "java", "Manydays.java");
        List<String> lines;
        try {
            lines = Files.readAllLines(file, StandardCharsets.UTF_8);
        } catch (IOException e) {
            Check.holds("the source can be read: " + file, false);
            return;
        }
        int classes = 0;
        int begin = -1;
        for (int i = 0; i < lines.size(); i++) {
            String line = lines.get(i);
            String where = "line " + (i + 1) + ": " + line.trim();
            Check.holds(where + " is plain", line.chars().allMatch(c -> c >= 32 && c < 127) && line.length() <= 120);
            classes += line.matches(".*\\b(class|enum|interface|record) [A-Z].*\\{") ? 1 : 0;
            if (line.startsWith("import")) {
                Check.holds(where, line.equals("import java.util.NoSuchElementException;"));
            }
            rules(where, codeOf(line));
            counters(where, codeOf(line));
            Matcher head = HEAD.matcher(line);
            if (head.matches()) {
                String parameters = head.group(2) == null ? head.group(3) : head.group(2);
                Check.holds(where + " has at most seven parameters", parameters.split(",").length <= 7);
                begin = i;
            }
            if (begin >= 0) {
                indexes(where, codeOf(line), String.join("\n", lines.subList(begin, i)) + "\n");
            }
            if (begin >= 0 && line.equals(indentOf(lines.get(begin)) + "}")) {
                Check.holds("the method of line " + (begin + 1) + " is short", i - begin <= 60);
                begin = -1;
            }
        }
        Check.holds("at most twelve classes", classes <= 12);
    }

    private static String indentOf(String line) {
        return line.substring(0, line.length() - line.stripLeading().length());
    }

    private static String codeOf(String line) {
        String trimmed = line.trim();
        boolean isRemark = trimmed.startsWith("*") || trimmed.startsWith("/*") || trimmed.startsWith("//");
        return isRemark || trimmed.startsWith("import") ? "" : line;
    }

    private static void rules(String where, String code) {
        for (String forbidden : FORBIDDEN) {
            Check.holds(where + " has no " + forbidden, !Pattern.compile(forbidden).matcher(code).find());
        }
        if (STATIC_FIELD.matcher(code).matches()) {
            Check.holds(where + " is final", code.contains("static final"));
        }
        if (code.contains("throw ")) {
            Check.holds(where + " throws with a written text", code.matches(" +throw new \\w+Exception\\(\"[^\"]*\"\\);"));
        }
    }

    /** Rule 7: each name in an index has been compared with a bound ahead of it, in the same method. */
    private static void indexes(String where, String code, String ahead) {
        Matcher index = INDEX.matcher(code);
        while (index.find()) {
            String before = ahead + code.substring(0, index.start());
            Matcher name = NAME.matcher(index.group(1));
            while (name.find()) {
                Pattern look = Pattern.compile("\\b" + name.group() + "( [+-] \\w+)? <=? ");
                Check.holds(where + " looks at " + name.group() + " first", look.matcher(before).find());
            }
        }
    }

    /** Rule 9: a counter goes by one. */
    private static void counters(String where, String code) {
        if (code.trim().startsWith("for (")) {
            Check.holds(where + " counts", code.matches(".*; \\w+(\\+\\+|--)\\) \\{"));
        }
    }
}
