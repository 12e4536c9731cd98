/** The boundary cases of the promises 1 to 9, a test for each sentence. */
final class EdgeDatesTest {
    private static final String NO_CALENDAR = "Throws `IndexOutOfBoundsException` if there is no such calendar";
    private static final String NO_YEAR = "Throws `IllegalArgumentException` if there is no such year";
    private static final String NOT_BEGUN = "Throws `IllegalStateException` if it has not begun (11)";
    private static final String DAY_BEYOND = "Throws `IllegalStateException` if the day is out of the bounds";

    private interface OfYear {
        Edge.Act with(int calendar, int year);
    }

    private EdgeDatesTest() {
    }

    static void run() {
        newObject();
        dayOf();
        isLawful();
        part();
        newYear();
        yearLength();
        monthAt();
        monthLength();
        setChange();
    }

    private static int lowest(int calendar) {
        return calendar == 11 ? 1 : -9999;
    }

    private static void newObject() {
        String sentence = "Creates calendars with the change 577736, an empty tape, no reigns, and an empty set.";
        Edge.of(1, sentence, "the change");
        Edge.is("setChange", 577736L, x -> x.setChange(500000));
        Edge.is("the day of the change", 15, x -> x.part(2, 577736, 2));
        Edge.is("the day ahead of it", 4, x -> x.part(2, 577735, 2));
        Edge.of(1, sentence, "the tape");
        Edge.is("wipe", 0, Manydays::wipe);
        Edge.is("fault", 0, Manydays::fault);
        Edge.refuses("signAt 0", Edge.INDEX, Manydays::new, x -> x.signAt(0));
        Edge.refuses("read", Edge.FORMAT, Manydays::new, Manydays::read);
        Edge.of(1, sentence, "the reigns");
        Edge.refuses("reignAt", Edge.NO_SUCH, Manydays::new, x -> x.reignAt(Edge.LAST_DAY, 0, 0));
        Edge.refuses("forgetReign", Edge.NO_SUCH, Manydays::new, x -> x.forgetReign(Edge.LAST_DAY));
        Edge.is("the first one", 1, x -> x.reign(5, 5));
        Edge.of(1, sentence, "the set");
        Edge.is("its number", 0L, x -> x.ofSet(0, 0));
        Edge.refuses("none not earlier", Edge.NO_SUCH, Manydays::new, x -> x.ofSet(Long.MIN_VALUE, 1));
        Edge.refuses("none not later", Edge.NO_SUCH, Manydays::new, x -> x.ofSet(Long.MAX_VALUE, 2));
        Edge.refuses("nothing to undo", Edge.NO_SUCH, Manydays::new, Manydays::undo);
        Edge.of(1, "Creates calendars", "each object has its own");
        Manydays other = new Manydays();
        States.rich();
        States.withReigns(20);
        States.fullSet();
        States.fullTape();
        Check.is("an object made ahead of others", States.tell(new Manydays()), () -> States.tell(other));
    }

    private static void dayOf() {
        Edge.of(2, NO_CALENDAR);
        Edge.calendars(c -> x -> x.dayOf(c, 2500, 1, 1));
        String notLawful = "Throws `IllegalArgumentException` if the date is not lawful";
        Edge.of(2, notLawful, "its year");
        years(Edge.ARGUMENT, Edge.ARGUMENT, (c, y) -> x -> x.dayOf(c, y, 1, 1));
        Edge.of(2, notLawful, "its month");
        for (int calendar = 0; calendar <= 18; calendar++) {
            int c = calendar;
            int last = lastMonth(c, 2500);
            Edge.refusesInts("month of " + c, Edge.ARGUMENT, m -> x -> x.dayOf(c, 2500, m, 1),
                Integer.MIN_VALUE, -1, 0, last + 1, Integer.MAX_VALUE);
            Edge.takes("first month of " + c, x -> x.dayOf(c, 2500, 1, 1));
            Edge.takes("last month of " + c, x -> x.dayOf(c, 2500, last, 1));
        }
        Edge.of(2, notLawful, "its day");
        for (int calendar = 0; calendar <= 18; calendar++) {
            int c = calendar;
            Oracle oracle = Oracle.of(c);
            int first = oracle.firstOf(2500);
            for (int i = 0; i < oracle.countOf(2500); i++) {
                int m = oracle.numbers[first + i];
                int last = oracle.length(first + i);
                long start = oracle.starts[first + i];
                Edge.refusesInts("day of " + c + " in the month " + m, Edge.ARGUMENT, d -> x -> x.dayOf(c, 2500, m, d),
                    -1, 0, last + 1);
                Edge.is("the first day of " + c + " in the month " + m, start, x -> x.dayOf(c, 2500, m, 1));
                Edge.is("the last day of " + c + " in the month " + m, start + last - 1, x -> x.dayOf(c, 2500, m, last));
            }
            Edge.refusesInts("day of " + c, Edge.ARGUMENT, d -> x -> x.dayOf(c, 2500, 1, d),
                Integer.MIN_VALUE, Integer.MAX_VALUE);
        }
        Edge.of(2, DAY_BEYOND);
        for (int calendar = 0; calendar <= 18; calendar++) {
            Oracle oracle = Oracle.of(calendar);
            for (long day : new long[] {Edge.FIRST_DAY, Edge.LAST_DAY}) {
                Edge.is("a date of " + calendar + " at the bounds", day, dayOf(oracle, day));
            }
            for (long day : new long[] {Edge.FIRST_DAY - 1, Edge.LAST_DAY + 1}) {
                Edge.refuses("a date of " + calendar + " beyond the bounds", Edge.STATE, dayOf(oracle, day));
            }
            int first = oracle.firstOf(lowest(calendar));
            Edge.refuses("the first date of " + calendar, Edge.STATE, dayOf(oracle, oracle.starts[first]));
            int behind = oracle.firstOf(20000);
            Edge.refuses("the last date of " + calendar, Edge.STATE, dayOf(oracle, oracle.starts[behind] - 1));
        }
    }

    private static Edge.Act dayOf(Oracle oracle, long day) {
        int at = oracle.at(day);
        int date = oracle.dateOf(at, day);
        return x -> x.dayOf(oracle.calendar, oracle.years[at], oracle.numbers[at], date);
    }

    private static int lastMonth(int calendar, int year) {
        Oracle oracle = Oracle.of(calendar);
        return oracle.numbers[oracle.firstOf(year) + oracle.countOf(year) - 1];
    }

    /** The years beyond -9999 and 19999 of all calendars, 0 of 1 and 2, and those that have not begun. */
    private static void years(Class<? extends RuntimeException> beyond, Class<? extends RuntimeException> notBegun,
            OfYear call) {
        for (int calendar = 0; calendar <= 18; calendar++) {
            int c = calendar;
            Edge.refusesInts("year of " + c, beyond, y -> call.with(c, y),
                Integer.MIN_VALUE, -10000, 20000, Integer.MAX_VALUE);
            if (c == 1 || c == 2) {
                Edge.refuses("year 0 of " + c, beyond, call.with(c, 0));
            }
        }
        Edge.refusesInts("year of 11", notBegun, y -> call.with(11, y), -9999, -1, 0);
    }

    private static void isLawful() {
        Edge.of(3, NO_CALENDAR);
        Edge.calendars(c -> x -> x.isLawful(c, 0, 0, 0));
        Edge.of(3, "Tells whether a date is lawful; its day can be out of the bounds.");
        for (int calendar = 0; calendar <= 18; calendar++) {
            int c = calendar;
            Oracle oracle = Oracle.of(c);
            int firstYear = lowest(c);
            int behind = oracle.firstOf(20000);
            for (long day : new long[] {oracle.starts[oracle.firstOf(firstYear)], Edge.FIRST_DAY - 1, Edge.FIRST_DAY,
                    Edge.LAST_DAY, Edge.LAST_DAY + 1, oracle.starts[behind] - 1}) {
                int at = oracle.at(day);
                int date = oracle.dateOf(at, day);
                Edge.is("the date of " + day + " by " + c, true,
                    x -> x.isLawful(c, oracle.years[at], oracle.numbers[at], date));
            }
            for (int year : new int[] {firstYear - 1, 20000, Integer.MIN_VALUE, Integer.MAX_VALUE}) {
                Edge.is("the year " + year + " of " + c, false, x -> x.isLawful(c, year, 1, 1));
            }
        }
        Edge.of(3, "Tells whether a date is lawful", "the ends of int");
        for (int calendar = 0; calendar <= 18; calendar++) {
            int c = calendar;
            for (int n : new int[] {Integer.MIN_VALUE, -1, 0, Integer.MAX_VALUE}) {
                Edge.is("month " + n + " of " + c, false, x -> x.isLawful(c, 1582, n, 1));
                Edge.is("day " + n + " of " + c, false, x -> x.isLawful(c, 1582, 10, n));
                Edge.is("all " + n + " of " + c, false, x -> x.isLawful(c, n, n, n));
            }
        }
    }

    private static void part() {
        Edge.of(4, NO_CALENDAR);
        Edge.calendars(c -> x -> x.part(c, 730120, 0));
        Edge.of(4, DAY_BEYOND);
        for (int calendar = 0; calendar <= 18; calendar++) {
            int c = calendar;
            Edge.days("day of " + c, d -> x -> x.part(c, d, 0));
        }
        Edge.of(4, "Throws `IllegalArgumentException` if what is out of range");
        Edge.range("what", Edge.ARGUMENT, 0, 3, w -> x -> x.part(0, 730120, w));
        Edge.of(4, "`what`: 0 the year, 1 the month, 2 the day, 3 the day of the year, from 1 on", "first and last days");
        for (int calendar = 0; calendar <= 18; calendar++) {
            int c = calendar;
            Oracle oracle = Oracle.of(c);
            int first = oracle.firstOf(2500);
            int behind = first + oracle.countOf(2500);
            parts(c, oracle.starts[first], 2500, 1, 1, 1);
            parts(c, oracle.starts[behind] - 1, 2500, oracle.numbers[behind - 1], oracle.length(behind - 1),
                (int) (oracle.starts[behind] - oracle.starts[first]));
            parts(c, oracle.starts[behind], 2501, 1, 1, 1);
        }
        Edge.of(4, "`what`: 0 the year, 1 the month, 2 the day, 3 the day of the year, from 1 on", "the bounds");
        for (int calendar = 0; calendar <= 18; calendar++) {
            Oracle oracle = Oracle.of(calendar);
            for (long day : new long[] {Edge.FIRST_DAY, Edge.LAST_DAY}) {
                int at = oracle.at(day);
                int year = oracle.years[at];
                parts(calendar, day, year, oracle.numbers[at], oracle.dateOf(at, day),
                    (int) (day - oracle.starts[oracle.firstOf(year)]) + 1);
            }
        }
    }

    private static void parts(int calendar, long day, int... due) {
        for (int what = 0; what < 4; what++) {
            int w = what;
            Edge.is("part " + w + " of " + day + " by " + calendar, due[w], x -> x.part(calendar, day, w));
        }
    }

    private static void newYear() {
        Edge.of(5, NO_CALENDAR);
        Edge.calendars(c -> x -> x.newYear(c, 1));
        Edge.of(5, NO_YEAR);
        years(Edge.ARGUMENT, Edge.STATE, (c, y) -> x -> x.newYear(c, y));
        Edge.of(5, "`year`: -9999 to 19999, not 0 in 1 and 2");
        for (int calendar = 0; calendar <= 18; calendar++) {
            int c = calendar;
            Oracle oracle = Oracle.of(c);
            for (int year : new int[] {lowest(c), lowest(c) + 1, -1, 0, 1, 2, 19998, 19999}) {
                int first = oracle.firstOf(year);
                if (first >= 0) {
                    Edge.is("the year " + year + " of " + c, oracle.starts[first], x -> x.newYear(c, year));
                }
            }
            if (c != 1 && c != 2 && c != 11) {
                Edge.takes("the year 0 of " + c, x -> x.newYear(c, 0));
            }
        }
        Edge.of(5, NOT_BEGUN);
        Edge.refusesInts("year", Edge.STATE, y -> x -> x.newYear(11, y), -9999, -9998, -1, 0);
        Edge.is("the first one", -1373427L, x -> x.newYear(11, 1));
        Edge.of(5, "The day can be out of the bounds.");
        for (int calendar = 0; calendar <= 18; calendar++) {
            int c = calendar;
            int lowest = lowest(c);
            Check.holds("below, of " + c, new Manydays().newYear(c, lowest) < Edge.FIRST_DAY);
            Check.holds("above, of " + c, new Manydays().newYear(c, 19999) > Edge.LAST_DAY);
        }
        Edge.of(5, "of 2 the day of its first lawful date");
        long[] changes = {500000, 577736, Oracle.gregorian(1600, 1, 1), Oracle.gregorian(1600, 1, 5),
            Oracle.gregorian(1600, 1, 10), Oracle.gregorian(1600, 1, 11), Oracle.gregorian(1600, 1, 12), 740000};
        for (long change : changes) {
            Oracle oracle = Oracle.mixed(change);
            int year = oracle.years[oracle.at(change)];
            for (int y = year - 1; y <= year + 1; y++) {
                int named = y;
                Edge.is("the year " + y + " with the change " + change, oracle.starts[oracle.firstOf(y)],
                    Edge.withChange(change, x -> x.newYear(2, named)));
            }
        }
    }

    private static void yearLength() {
        Edge.of(6, NO_CALENDAR);
        Edge.calendars(c -> x -> x.yearLength(c, 1));
        Edge.of(6, NO_YEAR);
        years(Edge.ARGUMENT, Edge.STATE, (c, y) -> x -> x.yearLength(c, y));
        Edge.of(6, NOT_BEGUN);
        Edge.refusesInts("year", Edge.STATE, y -> x -> x.yearLength(11, y), -9999, -1, 0);
        Edge.takes("the first one", x -> x.yearLength(11, 1));
        Edge.of(6, "`year`: as for newYear()");
        for (int calendar = 0; calendar <= 18; calendar++) {
            int c = calendar;
            Oracle oracle = Oracle.of(c);
            for (int year : new int[] {lowest(c), lowest(c) + 1, -1, 0, 1, 2, 19998, 19999}) {
                int first = oracle.firstOf(year);
                if (first >= 0) {
                    long due = oracle.starts[first + oracle.countOf(year)] - oracle.starts[first];
                    Edge.is("the year " + year + " of " + c, due, x -> x.yearLength(c, year));
                }
            }
        }
        Edge.of(6, "Returns the number; of 2 of its lawful dates.");
        for (long change : new long[] {500000, 577736, Oracle.gregorian(1600, 1, 5), 740000}) {
            int year = new Manydays().part(0, change, 0);
            for (int y = year - 1; y <= year + 1; y++) {
                int named = y;
                Manydays asked = new Manydays();
                asked.setChange(change);
                Check.is("the year " + y + " with the change " + change, lawfulDates(change, named),
                    () -> asked.yearLength(2, named));
            }
        }
    }

    private static int lawfulDates(long change, int year) {
        int count = 0;
        for (int month = 1; month <= 12; month++) {
            Manydays x = new Manydays();
            x.setChange(change);
            for (int day = 1; day <= 31; day++) {
                count += x.isLawful(2, year, month, day) ? 1 : 0;
            }
        }
        return count;
    }

    private static void monthAt() {
        Edge.of(7, NO_CALENDAR);
        Edge.calendars(c -> x -> x.monthAt(c, 1, 0));
        Edge.of(7, NO_YEAR);
        years(Edge.ARGUMENT, Edge.STATE, (c, y) -> x -> x.monthAt(c, y, 0));
        Edge.of(7, NOT_BEGUN);
        Edge.refusesInts("year", Edge.STATE, y -> x -> x.monthAt(11, y, 0), -9999, -1, 0);
        Edge.is("the first one", 1, x -> x.monthAt(11, 1, 0));
        Edge.of(7, "Throws `NoSuchElementException` if the year has not so many months");
        for (int calendar = 0; calendar <= 18; calendar++) {
            int c = calendar;
            Oracle oracle = Oracle.of(c);
            for (int year : new int[] {lowest(c), 2, 3, 2500, 2501, 2502, 2503, 2504, 2505, 2506, 19999}) {
                int y = year;
                int first = oracle.firstOf(y);
                int count = oracle.countOf(y);
                Edge.refusesInts("index of " + y + " of " + c, Edge.NO_SUCH, i -> x -> x.monthAt(c, y, i), -1, count);
                for (int i = 0; i < count; i++) {
                    int index = i;
                    Edge.is("the month " + i + " of " + y + " of " + c, oracle.numbers[first + i],
                        x -> x.monthAt(c, y, index));
                }
            }
            Edge.refusesInts("index of " + c, Edge.NO_SUCH, i -> x -> x.monthAt(c, 2500, i),
                Integer.MIN_VALUE, 60, 1000, Integer.MAX_VALUE);
        }
        Edge.of(7, "`index`: 0 for the first one");
        Edge.is("0", 1, x -> x.monthAt(18, 2000, 0));
        Edge.is("1", 3, x -> x.monthAt(18, 2000, 1));
    }

    private static void monthLength() {
        Edge.of(8, NO_CALENDAR);
        Edge.calendars(c -> x -> x.monthLength(c, 1, 1));
        String noMonth = "Throws `IllegalArgumentException` if there is no such year, or it has no such month";
        Edge.of(8, noMonth, "the year");
        years(Edge.ARGUMENT, Edge.STATE, (c, y) -> x -> x.monthLength(c, y, 1));
        Edge.of(8, noMonth, "the month");
        for (int calendar = 0; calendar <= 18; calendar++) {
            int c = calendar;
            Oracle oracle = Oracle.of(c);
            for (int year : new int[] {lowest(c), 2500, 2501, 2502, 2503, 2504, 2505, 2506, 19999}) {
                int y = year;
                int last = lastMonth(c, y);
                Edge.refusesInts("month of " + y + " of " + c, Edge.ARGUMENT, m -> x -> x.monthLength(c, y, m),
                    Integer.MIN_VALUE, -1, 0, last + 1, Integer.MAX_VALUE);
                for (int i = 0; i < oracle.countOf(y); i++) {
                    int at = oracle.firstOf(y) + i;
                    Edge.is("the month " + oracle.numbers[at] + " of " + y + " of " + c, oracle.length(at),
                        x -> x.monthLength(c, y, oracle.numbers[at]));
                }
            }
        }
        Edge.of(8, noMonth, "a number between those of two months (18)");
        Edge.refuses("2 of a year without", Edge.ARGUMENT, x -> x.monthLength(18, 2000, 2));
        Edge.of(8, "Throws `IllegalStateException` if the year has not begun (11)");
        Edge.refusesInts("month of the year 0", Edge.STATE, m -> x -> x.monthLength(11, 0, m),
            Integer.MIN_VALUE, 0, 1, 99, Integer.MAX_VALUE);
        Edge.refuses("the year -9999", Edge.STATE, x -> x.monthLength(11, -9999, 1));
        Edge.is("the first one", 30, x -> x.monthLength(11, 1, 1));
        Edge.of(8, "`year`: as for newYear()");
        Edge.is("-9999", 31, x -> x.monthLength(0, -9999, 1));
        Edge.is("19999", 31, x -> x.monthLength(0, 19999, 12));
        Edge.of(8, "Returns the number; of 2 of its lawful dates.");
        Edge.is("the month of the change", 21, x -> x.monthLength(2, 1582, 10));
        Edge.is("the month ahead", 30, x -> x.monthLength(2, 1582, 9));
        Edge.is("the month behind", 30, x -> x.monthLength(2, 1582, 11));
        Edge.is("a change on the first of a month, so that the one ahead is shorter", 18,
            Edge.withChange(Oracle.gregorian(1700, 3, 1), x -> x.monthLength(2, 1700, 2)));
        Edge.is("and it has all its days", 31,
            Edge.withChange(Oracle.gregorian(1700, 3, 1), x -> x.monthLength(2, 1700, 3)));
    }

    private static void setChange() {
        Edge.of(9, "Throws `IllegalArgumentException` if day is out of range");
        Edge.refusesLongs("change", Edge.ARGUMENT, d -> x -> x.setChange(d), 499999, 740001, 0, -577736, Long.MIN_VALUE,
            Long.MAX_VALUE, (1L << 32) + 577736, Integer.MIN_VALUE, Integer.MAX_VALUE);
        Edge.of(9, "`day`: 500000 to 740000");
        for (long change : new long[] {500000, 500001, 739999, 740000}) {
            Manydays x = new Manydays();
            Check.is("change " + change, 577736L, () -> x.setChange(change));
            Oracle oracle = Oracle.mixed(change);
            for (long day = change - 1; day <= change; day++) {
                long d = day;
                int at = oracle.at(day);
                Check.is("the month of " + d, oracle.numbers[at], () -> x.part(2, d, 1));
                Check.is("the day of " + d, oracle.dateOf(at, d), () -> x.part(2, d, 2));
            }
        }
        Edge.of(9, "Returns the change before.");
        Manydays x = new Manydays();
        Check.is("of a new object", 577736L, () -> x.setChange(500000));
        Check.is("the lowest one", 500000L, () -> x.setChange(740000));
        Check.is("the highest one", 740000L, () -> x.setChange(740000));
        Check.refuses("refused", Edge.ARGUMENT, () -> x.setChange(740001));
        Check.is("the one that was not refused", 740000L, () -> x.setChange(577736));
    }
}
