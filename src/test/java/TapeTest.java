import java.util.NoSuchElementException;
import java.util.Random;

/** Promises 26 to 32. */
final class TapeTest {
    private static final Class<IndexOutOfBoundsException> INDEX = IndexOutOfBoundsException.class;
    private static final Class<IllegalArgumentException> ARGUMENT = IllegalArgumentException.class;
    private static final Class<IllegalStateException> STATE = IllegalStateException.class;
    private static final Class<NumberFormatException> FORMAT = NumberFormatException.class;
    private static final Class<NoSuchElementException> NO_SUCH = NoSuchElementException.class;
    private static final String[] WORDS = {"gre", "jul", "mix", "cop", "eth", "egy", "arm", "isa", "isb", "isc", "isd",
        "heb", "per", "bah", "ind", "fre", "wee", "sun", "moo"};

    private TapeTest() {
    }

    /** Types a text, eight signs a call. */
    static void put(Manydays x, String text) {
        for (int from = 0; from < text.length(); from += 8) {
            long signs = 0;
            for (int i = from; i < Math.min(text.length(), from + 8); i++) {
                signs = signs << 8 | text.charAt(i);
            }
            x.type(signs);
        }
    }

    /** The signs of a tape; a call a sign, so for short tapes only. */
    static String tape(Manydays x) {
        StringBuilder text = new StringBuilder();
        try {
            for (int i = 0; i < 2001; i++) {
                text.append((char) x.signAt(i));
            }
        } catch (IndexOutOfBoundsException e) {
            return text.toString();
        }
        return text.toString();
    }

    static void run() {
        type();
        wipeAndSignAt();
        fault();
        read();
        write();
        table();
    }

    private static void type() {
        Check.promise(26, "type");
        Manydays x = new Manydays();
        Check.is("nothing", 0, () -> x.type(0));
        Check.is("a sign", 1, () -> x.type('a'));
        Check.is("the highest byte first", 3, () -> x.type('b' << 8 | 'c'));
        Check.is("zeros are left out", 5, () -> x.type((long) 'd' << 56 | 'e'));
        Check.is("lowest and highest sign", 7, () -> x.type(32L << 40 | 126));
        Check.is("the tape", "abcde ~", () -> tape(x));
        long[] bad = {31, 127, 128, 255, 1, -1, 'a' << 8 | 10, 200L << 56, 31L << 56 | 'a', Long.MIN_VALUE};
        for (long signs : bad) {
            Check.refuses("type " + signs, ARGUMENT, () -> x.type(signs));
        }
        Check.is("nothing has changed", "abcde ~", () -> tape(x));
        Manydays full = new Manydays();
        put(full, "abcdefgh".repeat(249));
        Check.is("1999", 1999, () -> full.type(0x61626364656667L));
        Check.refuses("two more", STATE, () -> full.type('a' << 8 | 'b'));
        Check.refuses("a bad byte goes first", ARGUMENT, () -> full.type('a' << 16 | 'b' << 8 | 31));
        Check.is("2000", 2000, () -> full.type('z'));
        Check.is("nothing more", 2000, () -> full.type(0));
        Check.refuses("one more", STATE, () -> full.type('a'));
        Check.is("the last sign", (int) 'z', () -> full.signAt(1999));
        Check.refuses("behind it", INDEX, () -> full.signAt(2000));
        Check.is("the first sign", (int) 'a', () -> full.signAt(0));
    }

    private static void wipeAndSignAt() {
        Check.promise(27, "wipe");
        Manydays x = new Manydays();
        Check.is("empty", 0, x::wipe);
        put(x, "gre 2000-1-1");
        Check.is("its length", 12, x::wipe);
        Check.is("twice", 0, x::wipe);
        Check.refuses("nothing stays", INDEX, () -> x.signAt(0));
        Check.is("typed behind", 1, () -> x.type('b'));
        Check.promise(28, "signAt");
        Check.is("sign", (int) 'b', () -> x.signAt(0));
        Check.refuses("index 1", INDEX, () -> x.signAt(1));
        Check.refuses("index -1", INDEX, () -> x.signAt(-1));
        Check.refuses("least index", INDEX, () -> x.signAt(Integer.MIN_VALUE));
        Check.refuses("greatest index", INDEX, () -> x.signAt(Integer.MAX_VALUE));
    }

    private static void faultIs(String tape, int due) {
        Manydays x = new Manydays();
        put(x, tape);
        Check.is("fault of '" + tape + "'", due, x::fault);
        Check.is("fault by the other way of '" + tape + "'", due, () -> faultDue(tape));
        if (due != -1) {
            Check.refuses("read of '" + tape + "'", FORMAT, x::read);
        }
        Check.is("the tape stays", tape.length(), x::wipe);
    }

    /** The fault in another way: the row is cut into words, numbers and signs first. */
    private static int faultDue(String tape) {
        int state = 0;
        int at = 0;
        boolean isBehindWord = false;
        while (at < tape.length()) {
            int end = at;
            char kind = kindOf(tape.charAt(at));
            do {
                end++;
            } while (kind != '-' && kind != '?' && end < tape.length() && kindOf(tape.charAt(end)) == kind);
            String part = tape.substring(at, end);
            if (kind == ' ') {
                isBehindWord = false;
            } else {
                boolean isGood = kind == 'w' ? java.util.Arrays.asList(WORDS).contains(part)
                    : kind == 'n' ? part.length() <= 5 : kind == '-';
                if (isBehindWord || !isGood) {
                    return at;
                }
                int next = nextState(state, kind);
                if (next < 0) {
                    return at;
                }
                state = next;
                isBehindWord = kind == 'w';
            }
            at = end;
        }
        return state == 7 ? -1 : tape.length();
    }

    private static char kindOf(char c) {
        return c == ' ' ? ' ' : c == '-' ? '-' : c >= '0' && c <= '9' ? 'n' : c >= 'a' && c <= 'z' ? 'w' : '?';
    }

    /** 0 the start, 1 the word, 2 the minus, 3 the year, 4 "-", 5 the month, 6 "-", 7 the day. */
    private static int nextState(int state, char kind) {
        switch (state) {
            case 0: return kind == 'w' ? 1 : -1;
            case 1: return kind == '-' ? 2 : kind == 'n' ? 3 : -1;
            case 2: return kind == 'n' ? 3 : -1;
            case 3: case 5: return kind == '-' ? state + 1 : -1;
            case 4: case 6: return kind == 'n' ? state + 1 : -1;
            default: return -1;
        }
    }

    private static void fault() {
        Check.promise(29, "fault");
        Object[][] cases = {{"", 0}, {"   ", 3}, {"gre", 3}, {"gre ", 4}, {"gr", 0}, {"grf 1-1-1", 0}, {"agre 1-1-1", 0},
            {"grex 1-1-1", 0}, {"Gre 1-1-1", 0}, {"  xyz 1-1-1", 2}, {"gre2000-1-1", 3}, {"gre-5-1-1", 3},
            {"gre?", 3}, {"gre ?", 4}, {"gre gre", 4}, {"gre a", 4}, {"gre 123456-1-1", 4}, {"gre 12345-1-1", -1},
            {"gre 00000-1-1", -1}, {"gre 000000-1-1", 4}, {"gre -5-1-1", -1}, {"gre --5-1-1", 5}, {"gre - 5-1-1", -1},
            {"gre - - 5-1-1", 6}, {"gre 5 5-1-1", 6}, {"gre 5 -1-1", -1}, {"gre 5- 1 - 1", -1}, {"gre 5-1", 7},
            {"gre 5-1-", 8}, {"gre 5-1- ", 9}, {"gre 5--1", 6}, {"gre 5-1--1", 8}, {"gre 5-1-1-", 9}, {"gre 5-1-1 ", -1},
            {"gre 5-1-1 1", 10}, {"gre 5-1-1a", 9}, {"gre 5-1-1 gre", 10}, {"gre 5-1-123456", 8}, {"gre 5-123456-1", 6},
            {"gre 5-1-1 123456", 10}, {"  gre   5 - 1 - 1  ", -1}, {"gre 5-13-77", -1}, {"heb 0-1-1", -1},
            {"gre 99999-99999-99999", -1}, {"gre -", 5}, {"gre - ", 6}, {"gre 5", 5}, {"gre 5 ", 6}, {"gre 5-", 6},
            {"5", 0}, {"-", 0}, {"gre 5.1.1", 5}, {"gre 5-a-1", 6}, {"gre 5-1-gre", 8}, {"gre !5-1-1", 4},
            {"gregre 5-1-1", 0}, {"grez 5-1-1", 0}, {"zgre 5-1-1", 0}, {"gre{ 5-1-1", 3}, {"gre` 5-1-1", 3}, {"gre/ 5-1-1", 3}, {"gre: 5-1-1", 3},
            {"gre 5-1-1:", 9}, {"gre 5-1-1/", 9}, {"gre 5-1-z", 8}, {"gre 9-9-9", -1}, {"gre~ 5-1-1", 3}, {"moo 5-1-1", -1}, {"isa 5-1-1", -1}, {"ise 5-1-1", 0}};
        for (Object[] one : cases) {
            faultIs((String) one[0], (Integer) one[1]);
        }
        for (String word : WORDS) {
            faultIs(word + " 5-1-1", -1);
            faultIs(word, 3);
        }
        faultIs("gre 5-1-1" + " ".repeat(1991), -1);
        faultIs("a".repeat(2000), 0);
        faultIs("gre " + "1".repeat(1996), 4);
        faultIs(" ".repeat(2000), 2000);
        Random random = new Random(29);
        String[] parts = {"gre", "heb", " ", " ", "-", "-", "-", "1", "12", "123456", "x", "?", "moo", "0"};
        for (int i = 0; i < 3000; i++) {
            StringBuilder tape = new StringBuilder(random.nextInt(4) > 0 ? "gre " : "");
            int many = random.nextInt(9);
            for (int k = 0; k < many; k++) {
                tape.append(random.nextInt(3) > 0 && k % 2 == 1 ? "-" : parts[random.nextInt(parts.length)]);
            }
            faultIs(tape.toString(), faultDue(tape.toString()));
        }
    }

    private static void readIs(String tape, long due) {
        Manydays x = new Manydays();
        put(x, tape);
        Check.is("read of '" + tape + "'", due, x::read);
        Check.is("once more", due, x::read);
        Check.is("the tape stays", tape, () -> tape(x));
    }

    private static void readRefuses(String tape, Class<? extends RuntimeException> kind) {
        Manydays x = new Manydays();
        put(x, tape);
        Check.refuses("read of '" + tape + "'", kind, x::read);
        Check.is("the tape stays", tape, () -> tape(x));
    }

    private static void read() {
        Check.promise(30, "read");
        readIs("gre 2000-1-1", 730120);
        readIs(" gre  02000 - 01 - 00001 ", 730120);
        readIs("jul -1-12-31", -2);
        readIs("jul - 1-12-31", -2);
        readIs("gre -0-12-31", 0);
        readIs("gre 0-12-31", 0);
        readIs("mix 1582-10-15", 577736);
        readIs("heb 5760-1-1", 730008);
        readIs("gre -2736-1-1", Oracle.gregorian(-2736, 1, 1));
        readRefuses("", FORMAT);
        readRefuses("gre 2000-1", FORMAT);
        readRefuses("gre 200000-13-1", FORMAT);
        readRefuses("gre 2000-13-1", NO_SUCH);
        readRefuses("gre 2000-0-1", NO_SUCH);
        readRefuses("gre 2000-1-0", NO_SUCH);
        readRefuses("gre 20000-1-1", NO_SUCH);
        readRefuses("gre 99999-1-1", NO_SUCH);
        readRefuses("gre -99999-1-1", NO_SUCH);
        readRefuses("gre -10000-1-1", NO_SUCH);
        readRefuses("jul 0-1-1", NO_SUCH);
        readRefuses("mix 1582-10-10", NO_SUCH);
        readRefuses("heb 0-1-1", NO_SUCH);
        readRefuses("heb -5-1-1", NO_SUCH);
        readRefuses("gre 19999-1-1", STATE);
        readRefuses("gre -9999-1-1", STATE);
        readRefuses("heb 1-1-1", STATE);
        for (int calendar = 0; calendar < 19; calendar++) {
            Manydays x = new Manydays();
            readIs(WORDS[calendar] + " 3000-1-1", x.dayOf(calendar, 3000, 1, 1));
        }
        Manydays x = new Manydays();
        put(x, "mix 1582-10-15");
        x.setChange(600000);
        Check.is("by another change", x.dayOf(1, 1582, 10, 15), x::read);
    }

    private static void write() {
        Check.promise(31, "write");
        Manydays x = new Manydays();
        Check.refuses("calendar", INDEX, () -> x.write(19, 3000001));
        Check.refuses("calendar -1", INDEX, () -> x.write(-1, 1));
        Check.refuses("day above", STATE, () -> x.write(0, 3000001));
        Check.refuses("day below", STATE, () -> x.write(0, -1000001));
        put(x, "old signs");
        Check.refuses("day above", STATE, () -> x.write(0, 3000001));
        Check.is("nothing has changed", "old signs", () -> tape(x));
        Check.is("length", 12, () -> x.write(0, 730120));
        Check.is("a date", "gre 2000-1-1", () -> tape(x));
        Check.is("length below 0", 12, () -> x.write(1, -2));
        Check.is("a date below 0", "jul -1-12-31", () -> tape(x));
        Check.is("length of the year 0", 11, () -> x.write(0, 0));
        Check.is("the year 0", "gre 0-12-31", () -> tape(x));
        for (int calendar = 0; calendar < 19; calendar++) {
            Manydays y = new Manydays();
            int c = calendar;
            for (long day : new long[] {-1000000, -400, 730120, 3000000}) {
                String due = WORDS[c] + " " + y.part(c, day, 0) + "-" + y.part(c, day, 1) + "-" + y.part(c, day, 2);
                Check.is("length of " + due, due.length(), () -> y.write(c, day));
                Check.is("date", due, () -> tape(y));
                Check.is("read again", day, y::read);
            }
        }
    }

    private static void table() {
        Check.promise(32, "table");
        Manydays x = new Manydays();
        put(x, "old");
        Check.refuses("calendar", INDEX, () -> x.table(19, 0, 20000, 0));
        Check.refuses("other", INDEX, () -> x.table(0, 19, 20000, 0));
        Check.refuses("other -1", INDEX, () -> x.table(0, -1, 2000, 1));
        Check.refuses("year", ARGUMENT, () -> x.table(0, 1, 20000, 1));
        Check.refuses("year 0 of 1", ARGUMENT, () -> x.table(1, 0, 0, 1));
        Check.refuses("month", ARGUMENT, () -> x.table(0, 1, 2000, 13));
        Check.refuses("month, out of the bounds", ARGUMENT, () -> x.table(0, 1, 19999, 13));
        Check.refuses("not begun", STATE, () -> x.table(11, 0, 0, 99));
        Check.refuses("out of the bounds", STATE, () -> x.table(0, 1, 19999, 1));
        Check.refuses("a part is above", STATE, () -> x.table(0, 1, x.part(0, 3000000, 0), x.part(0, 3000000, 1)));
        Check.refuses("a part is below", STATE, () -> x.table(0, 1, x.part(0, -1000000, 0), x.part(0, -1000000, 1)));
        Check.is("nothing has changed", "old", () -> tape(x));
        Check.is("a week", 52, () -> x.table(16, 0, 2004, 53));
        Check.is("its signs", "1:12.27 2:12.28 3:12.29 4:12.30 5:12.31 6:1.1 7:1.2;", () -> tape(x));
        Manydays y = new Manydays();
        Check.is("length", tableDue(2, 0, 1582, 10).length(), () -> y.table(2, 0, 1582, 10));
        Check.is("the gap", tableDue(2, 0, 1582, 10), () -> tape(y));
        Check.holds("the gap, begins", tape(y).startsWith("1:10.11 2:10.12 3:10.13 4:10.14 15:10.15 16:10.16 17:10.17;"));
        for (int calendar = 0; calendar < 19; calendar++) {
            Manydays z = new Manydays();
            int c = calendar;
            int other = (calendar * 7 + 5) % 19;
            String due = tableDue(c, other, 2500, 1);
            Check.is("length of " + c, due.length(), () -> z.table(c, other, 2500, 1));
            Check.is("table of " + c + " by " + other, due, () -> tape(z));
        }
    }

    private static String tableDue(int calendar, int other, int year, int month) {
        Oracle oracle = Oracle.of(calendar);
        int at = oracle.firstOf(year);
        while (oracle.numbers[at] != month) {
            at++;
        }
        Oracle second = Oracle.of(other);
        StringBuilder text = new StringBuilder();
        for (long day = oracle.starts[at]; day < oracle.starts[at + 1]; day++) {
            int there = second.at(day);
            text.append(oracle.dateOf(at, day)).append(':').append(second.numbers[there]).append('.')
                .append(second.dateOf(there, day)).append(Math.floorMod(day, 7L) == 0 ? ';' : ' ');
        }
        return text.toString();
    }
}
