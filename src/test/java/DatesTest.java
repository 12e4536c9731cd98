import java.util.NoSuchElementException;

/** Promises 1 to 9. The oracle test goes through the calendars; here stand known dates, edges and refusals. */
final class DatesTest {
    private static final Class<IndexOutOfBoundsException> INDEX = IndexOutOfBoundsException.class;
    private static final Class<IllegalArgumentException> ARGUMENT = IllegalArgumentException.class;
    private static final Class<IllegalStateException> STATE = IllegalStateException.class;
    private static final Class<NoSuchElementException> NONE = NoSuchElementException.class;

    /** Days, each with its weekday and its dates in some calendars (calendar, year, month, day). */
    private static final int[][] KNOWN = {
        {-214193, 7, 0, -586, 7, 24, 1, -587, 7, 30, 5, 161, 7, 15, 3, -870, 12, 6, 4, -594, 12, 6, 16, -586, 29, 7},
        {601716, 3, 0, 1648, 6, 10, 1, 1648, 5, 31, 11, 5408, 9, 20, 16, 1648, 24, 3},
        {710345, 6, 0, 1945, 11, 10, 1, 1945, 10, 28, 16, 1945, 45, 6},
        {730120, 6, 0, 2000, 1, 1, 1, 1999, 12, 19, 11, 5760, 4, 23, 14, 1921, 10, 11, 16, 1999, 52, 6},
        {736330, 7, 0, 2017, 1, 1, 1, 2016, 12, 19, 16, 2016, 52, 7},
    };

    private DatesTest() {
    }

    static void run() {
        newObject();
        known();
        dayOf();
        isLawful();
        part();
        newYear();
        yearLength();
        monthAt();
        monthLength();
        setChange();
    }

    private static void newObject() {
        Check.promise(1, "a new object");
        Manydays x = new Manydays();
        Check.is("wipe", 0, x::wipe);
        Check.is("fault of the empty tape", 0, x::fault);
        Check.refuses("signAt", INDEX, () -> x.signAt(0));
        Check.is("ofSet size", 0L, () -> x.ofSet(0, 0));
        Check.refuses("undo", NONE, x::undo);
        Check.refuses("reignAt", NONE, () -> x.reignAt(3000000, 0, 0));
        Check.refuses("forgetReign", NONE, () -> x.forgetReign(3000000));
        Check.is("setChange", 577736L, () -> x.setChange(577736));
        Manydays other = new Manydays();
        x.toggle(5);
        x.type('a');
        x.setChange(600000);
        x.reign(5, 5);
        Check.is("the set of another object", 0L, () -> other.ofSet(0, 0));
        Check.is("the tape of another object", 0, other::wipe);
        Check.is("the change of another object", 577736L, () -> other.setChange(577736));
        Check.refuses("the reigns of another object", NONE, () -> other.reignAt(5, 0, 0));
    }

    private static void known() {
        Check.promise(2, "dayOf, of known days");
        Manydays x = new Manydays();
        for (int[] row : KNOWN) {
            long day = row[0];
            Check.is("weekday of " + day, row[1], () -> x.position(0, day));
            for (int i = 2; i + 3 < row.length; i += 4) {
                int c = row[i];
                int y = row[i + 1];
                int m = row[i + 2];
                int d = row[i + 3];
                Check.is("dayOf " + c, day, () -> x.dayOf(c, y, m, d));
                Check.is("year of " + day + " in " + c, y, () -> x.part(c, day, 0));
                Check.is("month of " + day + " in " + c, m, () -> x.part(c, day, 1));
                Check.is("date of " + day + " in " + c, d, () -> x.part(c, day, 2));
            }
        }
    }

    private static void dayOf() {
        Check.promise(2, "dayOf");
        Manydays x = new Manydays();
        Check.is("day 1", 1L, () -> x.dayOf(0, 1, 1, 1));
        Check.is("first of 1", -1L, () -> x.dayOf(1, 1, 1, 1));
        Check.is("ahead of the year 1 of 1", -2L, () -> x.dayOf(1, -1, 12, 31));
        Check.is("ahead of the year 1 of 2", -2L, () -> x.dayOf(2, -1, 12, 31));
        Check.is("day 0", 0L, () -> x.dayOf(0, 0, 12, 31));
        Check.is("ahead of the change", 577735L, () -> x.dayOf(2, 1582, 10, 4));
        Check.is("the change", 577736L, () -> x.dayOf(2, 1582, 10, 15));
        Check.is("first of 12", 226896L, () -> x.dayOf(12, 1, 1, 1));
        Check.is("BAHAI", Oracle.gregorian(1844, 3, 21), () -> x.dayOf(13, 1, 1, 1));
        Check.is("BAHAI's last month", Oracle.gregorian(1845, 3, 20), () -> x.dayOf(13, 1, 20, 19));
        Check.is("INDIAN", Oracle.gregorian(79, 3, 22), () -> x.dayOf(14, 1, 1, 1));
        Check.is("INDIAN, long", Oracle.gregorian(2000, 3, 21), () -> x.dayOf(14, 1922, 1, 1));
        Check.is("FRENCH", Oracle.gregorian(1792, 9, 22), () -> x.dayOf(15, 1, 1, 1));
        Check.is("the month 0 of SUN", -1132959L, () -> x.newYear(17, 0));
        for (int calendar = 0; calendar < 19; calendar++) {
            int c = calendar;
            for (long day : new long[] {-1000000, 3000000}) {
                int y = x.part(c, day, 0);
                int m = x.part(c, day, 1);
                int d = x.part(c, day, 2);
                Check.is("bound of " + c, day, () -> x.dayOf(c, y, m, d));
            }
        }
        beyond();
        refusedDates();
    }

    private static void beyond() {
        for (int calendar = 0; calendar < 19; calendar++) {
            int c = calendar;
            Manydays x = new Manydays();
            Oracle oracle = Oracle.of(c);
            for (long day : new long[] {-1000001, 3000001}) {
                int at = oracle.at(day);
                int date = oracle.dateOf(at, day);
                Check.is("lawful beyond the bounds in " + c, true,
                    () -> x.isLawful(c, oracle.years[at], oracle.numbers[at], date));
                Check.refuses("dayOf beyond the bounds in " + c, STATE,
                    () -> x.dayOf(c, oracle.years[at], oracle.numbers[at], date));
            }
        }
    }

    private static void refusedDates() {
        Manydays x = new Manydays();
        Check.refuses("calendar -1", INDEX, () -> x.dayOf(-1, 99999, 0, 0));
        Check.refuses("calendar 19", INDEX, () -> x.dayOf(19, 1, 1, 1));
        Check.refuses("calendar, greatest", INDEX, () -> x.dayOf(Integer.MAX_VALUE, 1, 1, 1));
        Check.refuses("calendar, least", INDEX, () -> x.dayOf(Integer.MIN_VALUE, 1, 1, 1));
        Check.refuses("year 20000", ARGUMENT, () -> x.dayOf(0, 20000, 1, 1));
        Check.refuses("year -10000", ARGUMENT, () -> x.dayOf(0, -10000, 1, 1));
        Check.refuses("year 19999", STATE, () -> x.dayOf(0, 19999, 1, 1));
        Check.refuses("not lawful goes ahead of out of bounds", ARGUMENT, () -> x.dayOf(0, 19999, 13, 1));
        Check.refuses("year 0 of 1", ARGUMENT, () -> x.dayOf(1, 0, 1, 1));
        Check.refuses("year 0 of 2", ARGUMENT, () -> x.dayOf(2, 0, 1, 1));
        Check.refuses("year 0 of 11", ARGUMENT, () -> x.dayOf(11, 0, 1, 1));
        Check.refuses("year 1 of 11", STATE, () -> x.dayOf(11, 1, 1, 1));
        Check.refuses("month 0", ARGUMENT, () -> x.dayOf(0, 2000, 0, 1));
        Check.refuses("month 13", ARGUMENT, () -> x.dayOf(0, 2000, 13, 1));
        Check.refuses("month -1", ARGUMENT, () -> x.dayOf(0, 2000, -1, 1));
        Check.refuses("month, greatest", ARGUMENT, () -> x.dayOf(0, 2000, Integer.MAX_VALUE, 1));
        Check.refuses("day 0", ARGUMENT, () -> x.dayOf(0, 2000, 1, 0));
        Check.refuses("day 32", ARGUMENT, () -> x.dayOf(0, 2000, 1, 32));
        Check.refuses("day, least", ARGUMENT, () -> x.dayOf(0, 2000, 1, Integer.MIN_VALUE));
        Check.refuses("day, greatest", ARGUMENT, () -> x.dayOf(2, 1582, 10, Integer.MAX_VALUE));
        Check.refuses("February 29 of 1900", ARGUMENT, () -> x.dayOf(0, 1900, 2, 29));
        Check.refuses("MIXED, left out", ARGUMENT, () -> x.dayOf(2, 1582, 10, 10));
        Check.refuses("week 53 of a year with 52", ARGUMENT, () -> x.dayOf(16, 2000, 53, 1));
        Check.is("week 53 of a year with 53", Oracle.gregorian(2004, 12, 27), () -> x.dayOf(16, 2004, 53, 1));
    }

    private static void isLawful() {
        Check.promise(3, "isLawful");
        Manydays x = new Manydays();
        Check.refuses("calendar 19", INDEX, () -> x.isLawful(19, 0, 0, 0));
        Check.refuses("calendar -1", INDEX, () -> x.isLawful(-1, 0, 0, 0));
        Check.is("year 19999", true, () -> x.isLawful(0, 19999, 12, 31));
        Check.is("year 20000", false, () -> x.isLawful(0, 20000, 1, 1));
        Check.is("year -9999", true, () -> x.isLawful(0, -9999, 1, 1));
        Check.is("year -10000", false, () -> x.isLawful(0, -10000, 1, 1));
        Check.is("year -9999 of 1", true, () -> x.isLawful(1, -9999, 1, 1));
        Check.is("year -10000 of 1", false, () -> x.isLawful(1, -10000, 1, 1));
        Check.is("year 0 of 0", true, () -> x.isLawful(0, 0, 2, 29));
        Check.is("year 0 of 1", false, () -> x.isLawful(1, 0, 2, 1));
        Check.is("year 0 of 2", false, () -> x.isLawful(2, 0, 2, 1));
        Check.is("year -1 of 1 is long", true, () -> x.isLawful(1, -1, 2, 29));
        Check.is("year -4 of 1 is not", false, () -> x.isLawful(1, -4, 2, 29));
        Check.is("year 0 of 11", false, () -> x.isLawful(11, 0, 1, 1));
        Check.is("year 1 of 11", true, () -> x.isLawful(11, 1, 1, 1));
        Check.is("year -5 of 18", true, () -> x.isLawful(18, -5, 1, 1));
        Check.is("least numbers", false, () -> x.isLawful(2, Integer.MIN_VALUE, Integer.MIN_VALUE, Integer.MIN_VALUE));
        Check.is("greatest numbers", false,
            () -> x.isLawful(18, Integer.MAX_VALUE, Integer.MAX_VALUE, Integer.MAX_VALUE));
        for (int date = 1; date <= 31; date++) {
            int d = date;
            Check.is("October " + d + " of 1582 in 2", d <= 4 || d >= 15, () -> x.isLawful(2, 1582, 10, d));
        }
        Check.is("1500 was long by 1", true, () -> x.isLawful(2, 1500, 2, 29));
        Check.is("1700 was not by 0", false, () -> x.isLawful(2, 1700, 2, 29));
    }

    private static void part() {
        Check.promise(4, "part");
        Manydays x = new Manydays();
        Check.refuses("calendar first", INDEX, () -> x.part(19, 3000001, 4));
        Check.refuses("calendar -1", INDEX, () -> x.part(-1, 1, 0));
        Check.refuses("day ahead of what", STATE, () -> x.part(0, 3000001, 4));
        Check.refuses("day below", STATE, () -> x.part(0, -1000001, 0));
        Check.refuses("least day", STATE, () -> x.part(0, Long.MIN_VALUE, 0));
        Check.refuses("greatest day", STATE, () -> x.part(0, Long.MAX_VALUE, 0));
        Check.refuses("what 4", ARGUMENT, () -> x.part(0, 1, 4));
        Check.refuses("what -1", ARGUMENT, () -> x.part(0, 1, -1));
        Check.is("December 31 of a long year", 366, () -> x.part(0, 0, 3));
        Check.is("January 1", 1, () -> x.part(0, 1, 3));
        Check.is("behind the change", 278, () -> x.part(2, 577736, 3));
        Check.is("ahead of the change", 277, () -> x.part(2, 577735, 3));
        Check.is("year ahead of 1 in 1", -1, () -> x.part(1, -2, 0));
        Check.is("year ahead of 1 in 2", -1, () -> x.part(2, -2, 0));
        Check.is("year ahead of 1 in 0", 0, () -> x.part(0, 0, 0));
        Check.is("weekday in 16", 7, () -> x.part(16, 7, 2));
        Check.is("Elul 29", 29, () -> x.part(11, 730007, 2));
    }

    private static void newYear() {
        Check.promise(5, "newYear");
        Manydays x = new Manydays();
        Check.refuses("calendar", INDEX, () -> x.newYear(19, 20000));
        Check.refuses("calendar -1", INDEX, () -> x.newYear(-1, 1));
        Check.refuses("year 20000", ARGUMENT, () -> x.newYear(0, 20000));
        Check.refuses("year -10000", ARGUMENT, () -> x.newYear(5, -10000));
        Check.refuses("year 0 of 1", ARGUMENT, () -> x.newYear(1, 0));
        Check.refuses("year 0 of 2", ARGUMENT, () -> x.newYear(2, 0));
        Check.refuses("year 0 of 11", STATE, () -> x.newYear(11, 0));
        Check.refuses("year -9999 of 11", STATE, () -> x.newYear(11, -9999));
        Check.refuses("year -10000 of 11", ARGUMENT, () -> x.newYear(11, -10000));
        Check.is("year 1 of 11, out of the bounds", -1373427L, () -> x.newYear(11, 1));
        Check.is("year 19999", Oracle.gregorian(19999, 1, 1), () -> x.newYear(0, 19999));
        Check.is("year -9999", Oracle.gregorian(-9999, 1, 1), () -> x.newYear(0, -9999));
        Check.is("year -9999 of 5", -272787L - 365 * 10000L, () -> x.newYear(5, -9999));
        Check.is("year 19999 of 15", Oracle.of(15).starts[Oracle.of(15).firstOf(19999)], () -> x.newYear(15, 19999));
        Check.is("Rosh Hashanah of 5785", Oracle.gregorian(2024, 10, 3), () -> x.newYear(11, 5785));
        Check.is("Rosh Hashanah of 5786", Oracle.gregorian(2025, 9, 23), () -> x.newYear(11, 5786));
        Check.is("the year 1403 of 12", Oracle.gregorian(2024, 3, 21), () -> x.newYear(12, 1403));
        Check.is("the year 1445 of 8", Oracle.gregorian(2023, 7, 19), () -> x.newYear(8, 1445));
        Check.is("the year 1741 of 3", Oracle.gregorian(2024, 9, 11), () -> x.newYear(3, 1741));
        Check.is("the year 2017 of 4", Oracle.gregorian(2024, 9, 11), () -> x.newYear(4, 2017));
        // The change falls on January 5 by 0, so that year begins with this date.
        long change = Oracle.gregorian(1600, 1, 5);
        x.setChange(change);
        Check.is("a year that begins with the change", change, () -> x.newYear(2, 1600));
        Check.is("and its first date", 5, () -> x.part(2, change, 2));
        Check.is("and its first day", 1, () -> x.part(2, change, 3));
        Check.is("the year ahead", 359, () -> x.yearLength(2, 1599));
    }

    private static void yearLength() {
        Check.promise(6, "yearLength");
        Manydays x = new Manydays();
        Check.refuses("calendar", INDEX, () -> x.yearLength(19, 20000));
        Check.refuses("calendar -1", INDEX, () -> x.yearLength(-1, 1));
        Check.refuses("year 20000", ARGUMENT, () -> x.yearLength(0, 20000));
        Check.refuses("year -10000 of 11", ARGUMENT, () -> x.yearLength(11, -10000));
        Check.refuses("year 0 of 2", ARGUMENT, () -> x.yearLength(2, 0));
        Check.refuses("year 0 of 11", STATE, () -> x.yearLength(11, 0));
        Check.is("1582 of 2", 355, () -> x.yearLength(2, 1582));
        Check.is("1581 of 2", 365, () -> x.yearLength(2, 1581));
        Check.is("-1 of 1", 366, () -> x.yearLength(1, -1));
        Check.is("-1 of 2", 366, () -> x.yearLength(2, -1));
        Check.is("-2 of 1", 365, () -> x.yearLength(1, -2));
        Check.is("1 of 1", 365, () -> x.yearLength(1, 1));
        Check.is("1900 of 0", 365, () -> x.yearLength(0, 1900));
        Check.is("2000 of 0", 366, () -> x.yearLength(0, 2000));
        Check.is("19999 of 0", 365, () -> x.yearLength(0, 19999));
        Check.is("-9999 of 0", 365, () -> x.yearLength(0, -9999));
        Check.is("4000 of 15", 365, () -> x.yearLength(15, 4000));
        Check.is("400 of 15", 366, () -> x.yearLength(15, 400));
        Check.is("100 of 15", 365, () -> x.yearLength(15, 100));
        Check.is("0 of 15", 365, () -> x.yearLength(15, 0));
        Check.is("-4 of 15", 366, () -> x.yearLength(15, -4));
        Check.is("-1 of 3", 366, () -> x.yearLength(3, -1));
        int[][] rests = {{2, 5, 7, 10, 13, 15, 18, 21, 24, 26, 29}, {2, 5, 7, 10, 13, 16, 18, 21, 24, 26, 29},
            {2, 5, 8, 10, 13, 16, 19, 21, 24, 27, 29}, {2, 5, 8, 11, 13, 16, 19, 21, 24, 27, 30}};
        for (int kind = 0; kind < 4; kind++) {
            int c = 7 + kind;
            for (int year = 1; year <= 30; year++) {
                int y = year;
                int due = java.util.Arrays.binarySearch(rests[kind], year) >= 0 ? 355 : 354;
                Check.is("year " + y + " of " + c, due, () -> x.yearLength(c, y));
            }
        }
        int[] hebrew = {353, 384, 355, 383, 355, 354, 385, 355};
        for (int i = 0; i < hebrew.length; i++) {
            int y = 5781 + i;
            int due = hebrew[i];
            Check.is("year " + y + " of 11", due, () -> x.yearLength(11, y));
        }
    }

    private static void monthAt() {
        Check.promise(7, "monthAt");
        Manydays x = new Manydays();
        Check.refuses("calendar", INDEX, () -> x.monthAt(19, 20000, 99));
        Check.refuses("year", ARGUMENT, () -> x.monthAt(0, 20000, 99));
        Check.refuses("year of 1", ARGUMENT, () -> x.monthAt(1, 0, 0));
        Check.refuses("year -10000 of 11", ARGUMENT, () -> x.monthAt(11, -10000, 99));
        Check.refuses("year 0 of 11", STATE, () -> x.monthAt(11, 0, 99));
        Check.refuses("index 12", NONE, () -> x.monthAt(0, 2000, 12));
        Check.refuses("index -1", NONE, () -> x.monthAt(0, 2000, -1));
        Check.refuses("least index", NONE, () -> x.monthAt(18, 2000, Integer.MIN_VALUE));
        Check.refuses("greatest index", NONE, () -> x.monthAt(18, 2000, Integer.MAX_VALUE));
        int[] counts = {12, 12, 12, 13, 13, 13, 13, 12, 12, 12, 12, 12, 12, 20, 12, 13, 52, 12};
        for (int calendar = 0; calendar < counts.length; calendar++) {
            int c = calendar;
            Check.is("first month of " + c, 1, () -> x.monthAt(c, 1, 0));
            Check.is("last month of " + c, counts[c], () -> x.monthAt(c, 1, counts[c] - 1));
            Check.refuses("no more of " + c, NONE, () -> x.monthAt(c, 1, counts[c]));
        }
        Check.is("a long year of 11", 13, () -> x.monthAt(11, 3, 12));
        Check.is("a long year of 16", 53, () -> x.monthAt(16, 2004, 52));
        moons(x);
    }

    /** Of some year of 18 the numbers are odd, but for one that follows on the moon ahead. */
    private static void moons(Manydays x) {
        int found = 0;
        for (int year = 2000; year < 2006; year++) {
            int y = year;
            int odd = 0;
            for (int i = 0; i < Oracle.of(18).countOf(y); i++) {
                int k = i;
                int number = Oracle.of(18).numbers[Oracle.of(18).firstOf(y) + i];
                odd += number % 2;
                found += 1 - number % 2;
                Check.is("month " + k + " of " + y + " of 18", number, () -> x.monthAt(18, y, k));
            }
            Check.holds("odd months of " + y, odd == 12);
        }
        Check.holds("some year of 18 has 13 months", found > 0);
    }

    private static void monthLength() {
        Check.promise(8, "monthLength");
        Manydays x = new Manydays();
        Check.refuses("calendar", INDEX, () -> x.monthLength(19, 20000, 99));
        Check.refuses("calendar -1", INDEX, () -> x.monthLength(-1, 1, 1));
        Check.refuses("year", ARGUMENT, () -> x.monthLength(0, 20000, 1));
        Check.refuses("month 0", ARGUMENT, () -> x.monthLength(0, 2000, 0));
        Check.refuses("month 13", ARGUMENT, () -> x.monthLength(0, 2000, 13));
        Check.refuses("month 14 of 3", ARGUMENT, () -> x.monthLength(3, 1, 14));
        Check.refuses("month 13 of a year of 11 that is not long", ARGUMENT, () -> x.monthLength(11, 1, 13));
        Check.refuses("not begun, whatever the month", STATE, () -> x.monthLength(11, 0, 99));
        Check.refuses("not begun, month 0", STATE, () -> x.monthLength(11, -9999, 0));
        Check.refuses("no such year of 11", ARGUMENT, () -> x.monthLength(11, -10000, 1));
        Check.is("February of 2000", 29, () -> x.monthLength(0, 2000, 2));
        Check.is("February of 1900 in 1", 29, () -> x.monthLength(1, 1900, 2));
        Check.is("October of 1582 in 2", 21, () -> x.monthLength(2, 1582, 10));
        Check.is("September of 1582 in 2", 30, () -> x.monthLength(2, 1582, 9));
        Check.is("month 13 of 5", 5, () -> x.monthLength(5, 7, 13));
        Check.is("month 13 of 3", 6, () -> x.monthLength(3, 3, 13));
        for (int year : new int[] {-4000, 0, 4000, 8000, 12000, 16000}) {
            Check.is("month 13 of " + year + " of 15", 5, () -> x.monthLength(15, year, 13));
            Check.is("length of " + year + " of 15", 365, () -> x.yearLength(15, year));
            Check.is("month 13 of 4 years behind " + year + " of 15", 6, () -> x.monthLength(15, year + 4, 13));
        }
        for (int year : new int[] {15996, 16004, -3996, -4004, 2000, -2000}) {
            Check.is("month 13 of " + year + " of 15", 6, () -> x.monthLength(15, year, 13));
        }
        Check.is("month 12 of 7, long", 30, () -> x.monthLength(7, 2, 12));
        Check.is("month 12 of 7", 29, () -> x.monthLength(7, 1, 12));
        Check.is("month 12 of 12, long", 30, () -> x.monthLength(12, 1403, 12));
        Check.is("month 12 of 12", 29, () -> x.monthLength(12, 1402, 12));
        Check.is("month 19 of 13", 4, () -> x.monthLength(13, 1, 19));
        Check.is("month 19 of 13, long", 5, () -> x.monthLength(13, 4, 19));
        Check.is("month 20 of 13", 19, () -> x.monthLength(13, 1, 20));
        Check.is("month 1 of 14, long", 31, () -> x.monthLength(14, 1922, 1));
        Check.is("month 1 of 14", 30, () -> x.monthLength(14, 1923, 1));
        Check.is("a week", 7, () -> x.monthLength(16, 2004, 53));
        int[] full = {30, 30, 30, 29, 30, 30, 29, 30, 29, 30, 29, 30, 29};
        int[] lacking = {30, 29, 29, 29, 30, 29, 30, 29, 30, 29, 30, 29};
        for (int i = 0; i < full.length; i++) {
            int m = i + 1;
            int due = full[i];
            Check.is("month " + m + " of 5787 of 11", due, () -> x.monthLength(11, 5787, m));
        }
        for (int i = 0; i < lacking.length; i++) {
            int m = i + 1;
            int due = lacking[i];
            Check.is("month " + m + " of 5781 of 11", due, () -> x.monthLength(11, 5781, m));
        }
        Check.refuses("month 2 of 18 in a year without it", ARGUMENT, () -> x.monthLength(18, yearWithoutLeap(), 2));
    }

    private static int yearWithoutLeap() {
        int year = 2000;
        while (Oracle.of(18).countOf(year) != 12) {
            year++;
        }
        return year;
    }

    private static void setChange() {
        Check.promise(9, "setChange");
        Manydays x = new Manydays();
        Check.refuses("499999", ARGUMENT, () -> x.setChange(499999));
        Check.refuses("740001", ARGUMENT, () -> x.setChange(740001));
        Check.refuses("least", ARGUMENT, () -> x.setChange(Long.MIN_VALUE));
        Check.refuses("greatest", ARGUMENT, () -> x.setChange(Long.MAX_VALUE));
        Check.is("500000", 577736L, () -> x.setChange(500000));
        Check.is("740000", 500000L, () -> x.setChange(740000));
        Check.is("the day ahead is by 1", x.part(1, 739999, 2), () -> x.part(2, 739999, 2));
        Check.is("the change is by 0", x.part(0, 740000, 2), () -> x.part(2, 740000, 2));
        Check.is("back", 740000L, () -> x.setChange(577736));
        Check.is("as at first", 577736L, () -> x.dayOf(2, 1582, 10, 15));
    }
}
