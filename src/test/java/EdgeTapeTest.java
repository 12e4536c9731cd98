/** The boundary cases of the promises 26 to 32 and of the section 6, a test for each sentence. */
final class EdgeTapeTest {
    private static final String TAPE = "6. THE TAPE";
    private static final String FAULT = "The fault of the tape is the place, from 0, of the first word, number or sign that "
        + "can't stand where it stands";
    private static final String NO_CALENDAR = "Throws `IndexOutOfBoundsException` if there is no such calendar";
    private static final String[] WORDS = {"gre", "jul", "mix", "cop", "eth", "egy", "arm", "isa", "isb", "isc", "isd",
        "heb", "per", "bah", "ind", "fre", "wee", "sun", "moo"};

    private EdgeTapeTest() {
    }

    static void run() {
        type();
        typeFull();
        wipe();
        signAt();
        numbers();
        blanks();
        words();
        faults();
        faultPlaces();
        read();
        written();
        write();
        table();
        tableRefused();
    }

    private static Manydays typed(String text) {
        Manydays x = new Manydays();
        TapeTest.put(x, text);
        return x;
    }

    private static void type() {
        Edge.of(26, "Throws `IllegalArgumentException` if a byte is neither 0 nor 32 to 126");
        for (int place = 0; place < 8; place++) {
            for (long one : new long[] {1, 9, 10, 31, 127, 128, 129, 159, 160, 254, 255}) {
                long signs = one << 8 * place;
                long among = 0x4141414141414141L & ~(255L << 8 * place) | signs;
                Edge.refuses("the byte " + one + " alone, place " + place, Edge.ARGUMENT, x -> x.type(signs));
                Edge.refuses("the byte " + one + " among signs, place " + place, Edge.ARGUMENT, x -> x.type(among));
            }
        }
        Edge.refusesLongs("the ends of long", Edge.ARGUMENT, n -> x -> x.type(n),
            Long.MIN_VALUE, Long.MIN_VALUE + 1, -1, Long.MAX_VALUE);
        Edge.in(TAPE, "with the codes 32 to 126", "the lowest and the highest, in each byte");
        for (int place = 0; place < 8; place++) {
            for (int one : new int[] {32, 33, 125, 126}) {
                long signs = (long) one << 8 * place;
                Manydays x = new Manydays();
                Check.is("length of " + one + ", place " + place, 1, () -> x.type(signs));
                Check.is("sign of " + one + ", place " + place, one, () -> x.signAt(0));
            }
        }
        Edge.of(26, "the bytes of a number, the highest one first, without those that are 0", "eight, and none");
        Manydays x = new Manydays();
        Check.is("eight", 8, () -> x.type(0x6162636465666768L));
        Check.is("none", 8, () -> x.type(0));
        Check.is("eight more", 16, () -> x.type(0x7e7e7e7e7e7e7e7eL));
        Check.is("zeros between", 20, () -> x.type(0x3100320033003400L));
        Check.is("the tape", "abcdefgh~~~~~~~~1234", () -> TapeTest.tape(x));
        Edge.of(26, "Returns the length of the tape.");
        Edge.is("nothing on an empty tape", 0, y -> y.type(0));
        Edge.is("the first one", 1, y -> y.type('a'));
    }

    private static void typeFull() {
        Edge.of(26, "Throws `IllegalStateException` if the tape would be longer than 2000 signs");
        for (int room = 0; room <= 7; room++) {
            int left = room;
            long fits = 0x4141414141414141L >>> 8 * (8 - Math.max(1, left));
            long tooMany = fits << 8 | 'A';
            if (left > 0) {
                Edge.is(left + " of " + left, 2000, y -> filled(left).type(fits));
            }
            Edge.refuses((left + 1) + " of " + left, Edge.STATE, () -> filled(left),
                y -> y.type(left == 0 ? 'A' : tooMany));
            Edge.refuses("eight of " + left, Edge.STATE, () -> filled(left), y -> y.type(0x4242424242424242L));
        }
        Edge.is("eight of eight", 2000, y -> filled(8).type(0x4242424242424242L));
        Edge.of(26, "Throws `IllegalStateException` if the tape would be longer than 2000 signs", "nothing on a full tape");
        Edge.is("nothing", 2000, y -> filled(0).type(0));
        Edge.of(26, "Throws `IllegalStateException` if the tape would be longer than 2000 signs", "zeros do not count");
        Edge.is("one sign and zeros", 2000, y -> filled(1).type('a' * (1L << 32)));
        Edge.in(TAPE, "The tape is a row of at most 2000 signs", "full, wiped, and filled once more");
        Manydays x = filled(0);
        Check.is("the first sign", (int) 'a', () -> x.signAt(0));
        Check.is("the last sign", (int) 'h', () -> x.signAt(1999));
        Check.refuses("no sign behind", Edge.INDEX, () -> x.signAt(2000));
        Check.refuses("one more", Edge.STATE, () -> x.type('a'));
        Check.is("wiped", 2000, x::wipe);
        TapeTest.put(x, "z".repeat(240));
        Check.is("its length", 240, () -> x.type(0));
        Check.refuses("no old sign", Edge.INDEX, () -> x.signAt(240));
        Check.refuses("no old sign at the end", Edge.INDEX, () -> x.signAt(1999));
    }

    /** A tape with room for so many signs more. */
    private static Manydays filled(int room) {
        return typed("abcdefgh".repeat(250).substring(room));
    }

    private static void wipe() {
        Edge.of(27, "Empties the tape.");
        Manydays x = typed("gre 2000-1-1");
        x.wipe();
        Check.refuses("no sign", Edge.INDEX, () -> x.signAt(0));
        Check.is("the fault of an empty tape", 0, x::fault);
        Check.is("typed from its beginning", 1, () -> x.type('q'));
        Check.is("the first sign", (int) 'q', () -> x.signAt(0));
        Edge.of(27, "Returns its length before.", "empty, one sign, full");
        Edge.is("empty", 0, Manydays::wipe);
        Edge.is("one sign", 1, y -> typed("a").wipe());
        Edge.is("full", 2000, y -> filled(0).wipe());
        Edge.is("1999", 1999, y -> filled(1).wipe());
        Edge.is("twice", 0, Edge.after(Manydays::wipe, Manydays::wipe));
    }

    private static void signAt() {
        String sentence = "Throws `IndexOutOfBoundsException` if there is no such sign";
        Edge.of(28, sentence, "an empty tape");
        for (int index : new int[] {Integer.MIN_VALUE, -1, 0, 1, 1999, 2000, Integer.MAX_VALUE}) {
            Edge.refuses("sign " + index, Edge.INDEX, Edge.withTape(""), x -> x.signAt(index));
        }
        Edge.of(28, sentence, "a tape of 12 signs");
        Edge.refusesInts("sign", Edge.INDEX, i -> x -> x.signAt(i),
            Integer.MIN_VALUE, -12, -1, 12, 13, 1999, 2000, Integer.MAX_VALUE);
        Edge.of(28, sentence, "a full tape");
        for (int index : new int[] {Integer.MIN_VALUE, -1, 2000, 2001, 65536, Integer.MAX_VALUE}) {
            Edge.refuses("sign " + index, Edge.INDEX, States::fullTape, x -> x.signAt(index));
        }
        Edge.of(28, "`index`: its number, from 0 on", "the first and the last sign");
        Edge.is("the first one", (int) 'g', x -> typed("gre 2000-1-1").signAt(0));
        Edge.is("the last one", (int) '1', x -> typed("gre 2000-1-1").signAt(11));
    }

    private static void fault(String tape, int due) {
        Edge.is("fault of '" + tape + "'", due, x -> typed(tape).fault());
    }

    private static void numbers() {
        Edge.in(TAPE, "A number is a row of 1 to 5 digits, as long as possible.", "1, 5 and 6 digits, in each place");
        for (String number : new String[] {"0", "9", "12345", "00000", "99999", "00001"}) {
            fault("gre " + number + "-1-1", -1);
            fault("gre 1-" + number + "-1", -1);
            fault("gre 1-1-" + number, -1);
            fault("gre -" + number + "-1-1", -1);
        }
        for (String number : new String[] {"123456", "000000", "000001", "1234567890", "1".repeat(1900)}) {
            fault("gre " + number + "-1-1", 4);
            fault("gre 1-" + number + "-1", 6);
            fault("gre 1-1-" + number, 8);
            fault("gre -" + number + "-1-1", 5);
        }
        fault("gre --1-1", 5);
        fault("gre 1--1", 6);
        fault("gre 1-1-", 8);
        Edge.in(TAPE, "Square brackets enclose what can be left out: the minus of the year.", "none, one, two");
        fault("gre 5-1-1", -1);
        fault("gre -5-1-1", -1);
        fault("gre --5-1-1", 5);
        fault("gre 5-1--1", 8);
        fault("gre 5--1-1", 6);
    }

    private static void blanks() {
        Edge.in(TAPE, "Blanks can stand between all of these, ahead of the first and behind the last one");
        fault("   gre   -   5   -   1   -   1   ", -1);
        fault("gre 5 -1-1", -1);
        fault("gre 5- 1-1", -1);
        fault("gre 5-1 -1", -1);
        fault("gre 5-1- 1", -1);
        fault("gre - 5-1-1", -1);
        fault(" ".repeat(1000) + "gre 5-1-1" + " ".repeat(991), -1);
        fault("gre" + " ".repeat(1991) + "5-1-1 ", -1);
        fault("gre 5 5-1-1", 6);
        fault("g re 5-1-1", 0);
        Edge.in(TAPE, "between the word and the first sign of the year at least one stands");
        fault("gre 5-1-1", -1);
        fault("gre5-1-1", 3);
        fault("gre-5-1-1", 3);
        fault("gre -5-1-1", -1);
    }

    private static void words() {
        Edge.in(TAPE, "A word is three letters for a calendar");
        for (String word : WORDS) {
            fault(word + " 5-1-1", -1);
            fault(word.substring(0, 2) + " 5-1-1", 0);
            fault(word + "a 5-1-1", 0);
            fault(word + "z 5-1-1", 0);
            fault(word + "` 5-1-1", 3);
            fault(word + "{ 5-1-1", 3);
            fault("a" + word + " 5-1-1", 0);
            fault(word.substring(0, 2) + "{ 5-1-1", 0);
            fault(word.substring(0, 2) + "z 5-1-1", 0);
        }
        Edge.in(TAPE, "for 0 to 18 in this order");
        for (int calendar = 0; calendar <= 18; calendar++) {
            int c = calendar;
            long due = Oracle.of(c).dayOf(2500, 1, 2);
            Edge.is("the day by " + WORDS[c], due, x -> typed(WORDS[c] + " 2500-1-2").read());
        }
    }

    private static void faults() {
        Edge.in(TAPE, "a row of letters a to z, as long as possible, that is none of these words");
        for (String letters : new String[] {"a", "z", "gr", "gra", "grea", "zzz", "aaa", "gregre", "g".repeat(1990)}) {
            fault(letters, 0);
            fault("  " + letters + " 5-1-1", 2);
        }
        Edge.in(TAPE, "a row of digits with more than 5");
        fault("gre 555555", 4);
        fault("gre 5-555555", 6);
        fault("gre 5-5-555555", 8);
        fault("gre 55555", 9);
        Edge.in(TAPE, "a year's sign right behind the word");
        fault("gre1", 3);
        fault("gre0-1-1", 3);
        fault("gre9-1-1", 3);
        fault("gre-", 3);
        fault("  gre-1-1-1", 5);
        Edge.in(TAPE, "anything behind a date");
        fault("gre 5-1-1 1", 10);
        fault("gre 5-1-1-", 9);
        fault("gre 5-1-1 -", 10);
        fault("gre 5-1-1gre", 9);
        fault("gre 5-1-1 gre 5-1-1", 10);
        fault("gre 5-1-1 !", 10);
        fault("gre 5-1-1" + " ".repeat(1990) + "~", 1999);
        Edge.in(TAPE, "another sign");
        for (String sign : new String[] {"!", "/", ":", "A", "Z", "`", "{", "~", "+", ",", ".", "_"}) {
            fault(sign, 0);
            fault("gre" + sign, 3);
            fault("gre " + sign + "5-1-1", 4);
            fault("gre -" + sign + "5-1-1", 5);
            fault("gre 5" + sign + "-1-1", 5);
            fault("gre 5-" + sign + "1-1", 6);
            fault("gre 5-1" + sign + "-1", 7);
            fault("gre 5-1-" + sign, 8);
            fault("gre 5-1-1" + sign, 9);
        }
        Edge.in(TAPE, FAULT, "a word, a number or a sign where another one is due");
        fault("5", 0);
        fault("-", 0);
        fault("gre gre", 4);
        fault("gre -gre", 5);
        fault("gre 5gre", 5);
        fault("gre 5-gre", 6);
        fault("gre 5-1gre", 7);
        fault("gre 5-1-gre", 8);
        fault("gre 5 1", 6);
        fault("gre 5-1 1", 8);
    }

    private static void faultPlaces() {
        Edge.in(TAPE, "or its length if it ends too early", "behind each part, with and without blanks");
        String date = "gre -5-1-1";
        for (int length = 0; length < date.length(); length++) {
            if (length == 0 || length >= 3) {
                fault(date.substring(0, length), length);
                fault(date.substring(0, length) + "  ", length + 2);
            }
        }
        fault(" ".repeat(2000), 2000);
        fault(" ".repeat(1997) + "gre", 2000);
        fault("gre" + " ".repeat(1997), 2000);
        fault("gre 5" + " ".repeat(1995), 2000);
        fault("gre 5-1-" + " ".repeat(1992), 2000);
        Edge.in(TAPE, "a tape whose date is not lawful has no fault");
        for (String tape : new String[] {"gre 5-13-1", "gre 5-0-0", "gre 99999-99999-99999", "gre -99999-1-1", "jul 0-1-1",
                "jul -0-1-1", "mix 1582-10-10", "heb 0-1-1", "heb -1-1-1"}) {
            fault(tape, -1);
        }
        Edge.of(29, "Returns the fault; NONE if it is one of section 6.", "none, and the tape stays");
        Edge.is("none", Manydays.NONE, x -> typed("gre 2000-1-1").fault());
        Edge.leaves("fault", Manydays::fault);
        Edge.of(29, "Returns the fault of the tape, read as a date.", "empty and full");
        fault("", 0);
        Edge.is("a full tape", 0, x -> filled(0).fault());
        fault("gre " + "5".repeat(1996), 4);
        fault("gre 5-1-1" + " ".repeat(1991), -1);
    }

    private static void read() {
        Edge.of(30, "Throws `NumberFormatException` if the tape has a fault");
        for (String tape : new String[] {"", " ", "gre", "gre 2000-1", "gre 2000-1-", "gre2000-1-1", "gre 200000-1-1",
                "gre 2000-1-1 1", "gre 2000-1-100000", "xyz 2000-1-1", "GRE 2000-1-1", "2000-1-1", "gre 2000.1.1",
                "gre --1-1-1"}) {
            Edge.refuses("'" + tape + "'", Edge.FORMAT, Edge.withTape(tape), Manydays::read);
        }
        Edge.refuses("a full tape", Edge.FORMAT, States::fullTape, Manydays::read);
        Edge.of(30, "Throws `NoSuchElementException` if the date is not lawful");
        for (String tape : new String[] {"gre 20000-1-1", "gre -10000-1-1", "gre 99999-1-1", "gre -99999-1-1",
                "gre 2000-0-1", "gre 2000-13-1", "gre 2000-1-0", "gre 2000-1-32", "gre 1900-2-29", "gre 2000-99999-1",
                "gre 2000-1-99999", "jul 0-1-1", "jul -0-1-1", "mix 0-1-1", "heb 0-1-1", "heb -1-1-1", "heb -9999-1-1",
                "heb 1-13-1", "wee 2000-53-1", "isa 1-12-30", "cop 1-13-6"}) {
            Edge.refuses("'" + tape + "'", Edge.NO_SUCH, Edge.withTape(tape), Manydays::read);
        }
        Edge.refuses("a date that the change has left out", Edge.NO_SUCH,
            Edge.withTape("mix 1643-9-20"), Manydays::read);
        Edge.of(30, "Throws `IllegalStateException` if the day is out of the bounds");
        for (int calendar = 0; calendar <= 18; calendar++) {
            for (long day : new long[] {Edge.FIRST_DAY - 1, Edge.LAST_DAY + 1}) {
                Edge.refuses("a day beyond, by " + calendar, Edge.STATE, Edge.withTape(dateOf(calendar, day)), Manydays::read);
            }
            for (long day : new long[] {Edge.FIRST_DAY, Edge.LAST_DAY}) {
                String date = dateOf(calendar, day);
                Edge.is("'" + date + "'", day, x -> typed(date).read());
            }
        }
        Edge.refuses("the last year", Edge.STATE, Edge.withTape("gre 19999-12-31"), Manydays::read);
        Edge.refuses("the first year", Edge.STATE, Edge.withTape("gre -9999-1-1"), Manydays::read);
        Edge.refuses("the first year of 11", Edge.STATE, Edge.withTape("heb 1-1-1"), Manydays::read);
        Edge.of(30, "The tape stays.");
        Edge.leaves("read", Manydays::read);
    }

    /** A day's date by the oracle, written as section 6 tells. */
    private static String dateOf(int calendar, long day) {
        Oracle oracle = Oracle.of(calendar);
        int at = oracle.at(day);
        return WORDS[calendar] + " " + oracle.years[at] + "-" + oracle.numbers[at] + "-" + oracle.dateOf(at, day);
    }

    private static void written() {
        Edge.in(TAPE, "A date is written as the word, a blank, the year with a minus if it is below 0");
        written(0, Oracle.gregorian(-1, 12, 31), "gre -1-12-31");
        written(0, Oracle.gregorian(0, 1, 1), "gre 0-1-1");
        written(0, Oracle.gregorian(1, 1, 1), "gre 1-1-1");
        written(1, -1, "jul 1-1-1");
        written(1, -2, "jul -1-12-31");
        Edge.in(TAPE, "without zeros ahead", "one digit, two, and all of a year");
        written(0, Oracle.gregorian(9, 9, 9), "gre 9-9-9");
        written(0, Oracle.gregorian(10, 10, 10), "gre 10-10-10");
        written(0, Oracle.gregorian(99, 12, 31), "gre 99-12-31");
        written(0, Oracle.gregorian(100, 1, 1), "gre 100-1-1");
        written(0, Oracle.gregorian(999, 1, 1), "gre 999-1-1");
        written(0, Oracle.gregorian(1000, 1, 1), "gre 1000-1-1");
        written(0, Oracle.gregorian(-1000, 1, 1), "gre -1000-1-1");
        for (int calendar = 0; calendar <= 18; calendar++) {
            written(calendar, Edge.FIRST_DAY, dateOf(calendar, Edge.FIRST_DAY));
            written(calendar, Edge.LAST_DAY, dateOf(calendar, Edge.LAST_DAY));
        }
    }

    private static void written(int calendar, long day, String due) {
        Manydays x = filled(0);
        Check.is("length of " + due, due.length(), () -> x.write(calendar, day));
        Check.is("date", due, () -> TapeTest.tape(x));
    }

    private static void write() {
        Edge.of(31, NO_CALENDAR);
        Edge.calendars(c -> x -> x.write(c, 730120));
        Edge.of(31, "Throws `IllegalStateException` if the day is out of the bounds");
        for (int calendar = 0; calendar <= 18; calendar++) {
            int c = calendar;
            Edge.days("day of " + c, d -> x -> x.write(c, d));
        }
        Edge.of(31, "Throws `IllegalStateException` if the day is out of the bounds", "a full tape stays");
        Edge.refuses("a day above", Edge.STATE, States::fullTape, x -> x.write(0, Edge.LAST_DAY + 1));
        Edge.of(31, "Makes the tape the date of a day.", "an empty tape and a full one");
        Manydays x = new Manydays();
        Check.is("empty", 12, () -> x.write(0, 730120));
        Check.is("the date", "gre 2000-1-1", () -> TapeTest.tape(x));
        Manydays full = filled(0);
        Check.is("full", 12, () -> full.write(0, 730120));
        Check.is("nothing behind it", "gre 2000-1-1", () -> TapeTest.tape(full));
    }

    private static void tableRefused() {
        String noCalendar = "Throws `IndexOutOfBoundsException` if there is no such calendar, of either";
        Edge.of(32, noCalendar, "the first one");
        Edge.calendars(c -> x -> x.table(c, 0, 2500, 1));
        Edge.of(32, noCalendar, "the other one");
        Edge.calendars(c -> x -> x.table(0, c, 2500, 1));
        String argument = "Throws `IllegalArgumentException` if there is no such year, or it has no such month";
        Edge.of(32, argument, "the year");
        for (int calendar = 0; calendar <= 18; calendar++) {
            int c = calendar;
            Edge.refusesInts("year of " + c, Edge.ARGUMENT, y -> x -> x.table(c, 0, y, 1),
                Integer.MIN_VALUE, -10000, 20000, Integer.MAX_VALUE);
        }
        Edge.refuses("0 of 1", Edge.ARGUMENT, x -> x.table(1, 0, 0, 1));
        Edge.refuses("0 of 2", Edge.ARGUMENT, x -> x.table(2, 0, 0, 1));
        Edge.of(32, argument, "the month");
        for (int calendar = 0; calendar <= 18; calendar++) {
            int c = calendar;
            Oracle oracle = Oracle.of(c);
            int last = oracle.numbers[oracle.firstOf(2500) + oracle.countOf(2500) - 1];
            Edge.refusesInts("month of " + c, Edge.ARGUMENT, m -> x -> x.table(c, 0, 2500, m),
                Integer.MIN_VALUE, -1, 0, last + 1, Integer.MAX_VALUE);
            Edge.takes("the last month of " + c, x -> x.table(c, 0, 2500, last));
        }
        String state = "Throws `IllegalStateException` if the year has not begun, or a day of the month is out of the bounds";
        Edge.of(32, state, "the year has not begun");
        Edge.refusesInts("year", Edge.STATE, y -> x -> x.table(11, 0, y, 1), -9999, -1, 0);
        Edge.refusesInts("month of the year 0", Edge.STATE, m -> x -> x.table(11, 0, 0, m),
            Integer.MIN_VALUE, 0, 14, Integer.MAX_VALUE);
        Edge.of(32, state, "a day of the month is out of the bounds");
        for (int calendar = 0; calendar <= 18; calendar++) {
            for (long bound : new long[] {Edge.FIRST_DAY, Edge.LAST_DAY}) {
                int at = Oracle.of(calendar).at(bound);
                for (int i = at - 1; i <= at + 1; i++) {
                    tableAt(calendar, i);
                }
            }
            tableAt(calendar, 0);
        }
        Edge.refuses("the last year", Edge.STATE, x -> x.table(0, 0, 19999, 12));
        Edge.of(32, state, "a full tape stays");
        Edge.refuses("a month above", Edge.STATE, States::fullTape, x -> x.table(0, 0, 9000, 12));
    }

    /** The months at the bounds: that which has the bound, unless it is its last or first day, and those beside it. */
    private static void tableAt(int calendar, int at) {
        Oracle oracle = Oracle.of(calendar);
        Edge.Act act = x -> x.table(calendar, 0, oracle.years[at], oracle.numbers[at]);
        String what = "the month " + oracle.numbers[at] + " of " + oracle.years[at] + " of " + calendar;
        if (oracle.starts[at] < Edge.FIRST_DAY || oracle.starts[at + 1] - 1 > Edge.LAST_DAY) {
            Edge.refuses(what, Edge.STATE, act);
        } else {
            Edge.takes(what, act);
        }
    }

    private static void table() {
        Edge.of(32, "a blank, or, behind a Sunday, a semicolon", "Saturday, Sunday, Monday");
        tableIs(16, 16, 2000, 1, "1:1.1 2:1.2 3:1.3 4:1.4 5:1.5 6:1.6 7:1.7;");
        Edge.of(32, "for each of its days, from the first one on", "the days beside the change");
        Manydays x = filled(0);
        x.table(2, 1, 1582, 10);
        String tape = tapeFrom(x);
        Check.holds("behind the 4th comes the 15th", tape.startsWith("1:10.1 2:10.2 3:10.3 4:10.4 15:10.5 16:10.6 17:10.7;"));
        Check.holds("it ends with the 31st", tape.endsWith("30:10.20 31:10.21;"));
        Edge.of(32, "the month of the day in the other calendar, a point, the day in it", "over the other year's end");
        tableIs(16, 0, 2004, 53, "1:12.27 2:12.28 3:12.29 4:12.30 5:12.31 6:1.1 7:1.2;");
        Edge.of(32, "Returns the length of the tape.", "the shortest and the longest months");
        for (int[] month : new int[][] {{3, 2, 13}, {3, 3, 13}, {13, 100, 19}, {16, 2004, 53}, {12, 1400, 1}, {17, 2000, 5}}) {
            Manydays y = new Manydays();
            int length = y.table(month[0], 0, month[1], month[2]);
            Check.is("length of the month " + month[2] + " of " + month[0], length, y::wipe);
        }
    }

    private static String tapeFrom(Manydays x) {
        StringBuilder text = new StringBuilder();
        int length = x.type(0);
        for (int i = 0; i < length; i++) {
            text.append((char) x.signAt(i));
        }
        return text.toString();
    }

    /** A question mark stands for a blank or a semicolon. */
    private static void tableIs(int calendar, int other, int year, int month, String due) {
        Manydays x = filled(0);
        Check.is("length", due.length(), () -> x.table(calendar, other, year, month));
        String tape = tapeFrom(x);
        boolean isSo = tape.length() == due.length();
        for (int i = 0; isSo && i < due.length(); i++) {
            char c = tape.charAt(i);
            isSo = due.charAt(i) == '?' ? c == ' ' || c == ';' : c == due.charAt(i);
        }
        Check.holds("table '" + tape + "' is '" + due + "'", isSo);
    }
}
