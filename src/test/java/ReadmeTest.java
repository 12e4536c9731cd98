import java.io.IOException;
import java.nio.charset.StandardCharsets;
import java.nio.file.Files;
import java.nio.file.Path;
import java.util.List;
import java.util.regex.Pattern;

/** The calls that README.md shows, one behind the other on one object, answer what it says behind them. */
final class ReadmeTest {
    private static final Manydays DAYS = new Manydays();
    private static List<String> lines = List.of();
    private static int shown = 0;

    private ReadmeTest() {
    }

    static void run(String project) {
        Check.group("the calls in README.md");
        try {
            lines = Files.readAllLines(Path.of(project, "README.md"), StandardCharsets.UTF_8);
        } catch (IOException e) {
            Check.holds("README.md can be read", false);
            return;
        }
        says("dayOf(0, 2000, 1, 1)", 730120, () -> DAYS.dayOf(0, 2000, 1, 1));
        says("part(11, 730120, 0)", 5760, () -> DAYS.part(11, 730120, 0));
        says("nextFeast(0, 3, 730120)", 730233, () -> DAYS.nextFeast(0, 3, 730120));
        says("later(0, 730233, 1, -2)", 730539, () -> DAYS.later(0, 730233, 1, -2));
        says("meet(730120, 1, 4, 2, 20)", 730178, () -> DAYS.meet(730120, 1, 4, 2, 20));
        says("drift(1, false)", 39, () -> DAYS.drift(1, false));
        says("drift(1, true)", 5, () -> DAYS.drift(1, true));
        says("write(16, 730120)", 13, () -> DAYS.write(16, 730120));
        says("wipe()", 13, DAYS::wipe);
        says("type(0x6a756c203135L)", 6, () -> DAYS.type(0x6a756c203135L));
        says("type(0x38322d31302d34L)", 13, () -> DAYS.type(0x38322d31302d34L));
        says("read()", 577735, DAYS::read);
        says("reign(730120, 7)", 1, () -> DAYS.reign(730120, 7));
        says("reignAt(730486, 0, 2)", 2, () -> DAYS.reignAt(730486, 0, 2));
        says("gather(0, 2, 29, 730120, 733120)", 3, () -> DAYS.gather(0, 2, 29, 730120, 733120));
        says("ofSet(730120, 1)", 730179, () -> DAYS.ofSet(730120, 1));
        says("undo()", 0, DAYS::undo);
        Check.refuses("dayOf(0, 1900, 2, 29)", IllegalArgumentException.class, () -> DAYS.dayOf(0, 1900, 2, 29));
        long calls = lines.stream().filter(line -> line.startsWith("days.")).count();
        Check.is("each call of README.md is tried", calls, () -> shown);
    }

    private static void says(String call, long due, Check.Call act) {
        String line = "days\\." + Pattern.quote(call) + "; +// " + due + "[:,].*";
        Check.holds("README.md shows " + call, lines.stream().anyMatch(l -> l.matches(line)));
        Check.is(call, due, act);
        shown++;
    }
}
