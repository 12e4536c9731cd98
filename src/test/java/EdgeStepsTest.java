/** The boundary cases of the promises 10 to 16, a test for each sentence. */
final class EdgeStepsTest {
    private static final String NO_CALENDAR = "Throws `IndexOutOfBoundsException` if there is no such calendar";
    private static final String DAY_BEYOND = "Throws `IllegalStateException` if a day is out of the bounds";
    private static final String EARLIER = "Throws `IllegalArgumentException` if to is earlier than from";
    private static final long FIRST = Edge.FIRST_DAY;
    private static final long LAST = Edge.LAST_DAY;

    private EdgeStepsTest() {
    }

    static void run() {
        shift();
        later();
        laterBeyond();
        age();
        ageMonths();
        remembrance();
        near();
        nth();
        nthBeyond();
    }

    private static long day(int year, int month, int date) {
        return Oracle.gregorian(year, month, date);
    }

    private static void shift() {
        Edge.of(10, "Throws `ArithmeticException` if the sum is no long");
        long[][] noLong = {{Long.MAX_VALUE, 1}, {1, Long.MAX_VALUE}, {Long.MAX_VALUE, Long.MAX_VALUE},
            {Long.MIN_VALUE, -1}, {-1, Long.MIN_VALUE}, {Long.MIN_VALUE, Long.MIN_VALUE}, {LAST, Long.MAX_VALUE - LAST + 1},
            {FIRST, Long.MIN_VALUE - FIRST - 1}, {Long.MAX_VALUE / 2 + 1, Long.MAX_VALUE / 2 + 1}};
        for (long[] pair : noLong) {
            Edge.refuses(pair[0] + " and " + pair[1], Edge.ARITHMETIC, x -> x.shift(pair[0], pair[1]));
        }
        Edge.of(10, "Throws `IllegalStateException` if day or the sum is out of the bounds", "the sum");
        long[][] beyond = {{LAST, 1}, {FIRST, -1}, {0, LAST + 1}, {0, FIRST - 1}, {0, Long.MAX_VALUE}, {0, Long.MIN_VALUE},
            {1, Long.MAX_VALUE - 1}, {-1, Long.MIN_VALUE + 1}, {LAST, Long.MAX_VALUE - LAST}, {FIRST, Long.MIN_VALUE - FIRST},
            {LAST, 1L << 32}, {LAST, Long.MIN_VALUE}, {FIRST, Long.MAX_VALUE}, {0, 1L << 32}};
        for (long[] pair : beyond) {
            Edge.refuses(pair[0] + " and " + pair[1], Edge.STATE, x -> x.shift(pair[0], pair[1]));
        }
        Edge.of(10, "Throws `IllegalStateException` if day or the sum is out of the bounds", "the day");
        Edge.refusesLongs("day", Edge.STATE, d -> x -> x.shift(d, 0), Edge.BEYOND);
        Edge.refuses("day above, sum within", Edge.STATE, x -> x.shift(LAST + 1, -1));
        Edge.refuses("day below, sum within", Edge.STATE, x -> x.shift(FIRST - 1, 1));
        Edge.refuses("greatest day, sum within", Edge.STATE, x -> x.shift(Long.MAX_VALUE, -Long.MAX_VALUE));
        Edge.refuses("greatest day and least number", Edge.STATE, x -> x.shift(Long.MAX_VALUE, Long.MIN_VALUE));
        Edge.refuses("least day, sum within", Edge.STATE, x -> x.shift(Long.MIN_VALUE, Long.MAX_VALUE));
        Edge.of(10, "`more`: any number");
        long[][] sums = {{FIRST, 0}, {LAST, 0}, {FIRST, LAST - FIRST}, {LAST, FIRST - LAST}, {FIRST, 1}, {LAST, -1},
            {FIRST + 1, -1}, {LAST - 1, 1}, {0, LAST}, {0, FIRST}, {5, -5}};
        for (long[] pair : sums) {
            Edge.is(pair[0] + " and " + pair[1], pair[0] + pair[1], x -> x.shift(pair[0], pair[1]));
        }
    }

    private static void later() {
        Edge.of(11, NO_CALENDAR);
        Edge.calendars(c -> x -> x.later(c, 730120, 1, 1));
        String outOfRange = "Throws `IllegalArgumentException` if years or months is out of range";
        Edge.of(11, outOfRange, "years");
        Edge.refusesInts("years", Edge.ARGUMENT, y -> x -> x.later(0, 1, y, 0),
            Integer.MIN_VALUE, -20001, 20001, Integer.MAX_VALUE);
        Edge.of(11, outOfRange, "months");
        Edge.refusesInts("months", Edge.ARGUMENT, m -> x -> x.later(0, 1, 0, m),
            Integer.MIN_VALUE, -1001, 1001, Integer.MAX_VALUE);
        Edge.of(11, "`months`: -1000 to 1000");
        Edge.is("1000", day(2083, 5, 1), x -> x.later(0, day(2000, 1, 1), 0, 1000));
        Edge.is("999", day(2083, 4, 1), x -> x.later(0, day(2000, 1, 1), 0, 999));
        Edge.is("-1000", day(2000, 1, 1), x -> x.later(0, day(2083, 5, 1), 0, -1000));
        Edge.is("1000 weeks", day(2000, 1, 3) + 7000, x -> x.later(16, day(2000, 1, 3), 0, 1000));
        Edge.is("-1000 weeks", day(2000, 1, 3) - 7000, x -> x.later(16, day(2000, 1, 3), 0, -1000));
        for (int calendar = 0; calendar <= 18; calendar++) {
            int c = calendar;
            for (int months : new int[] {-1000, -999, 999, 1000}) {
                Edge.is(months + " months of " + c, Oracle.of(c).later(730120, 0, months),
                    x -> x.later(c, 730120, 0, months));
            }
        }
        Edge.of(11, "`years`: -20000 to 20000");
        for (int calendar = 0; calendar <= 18; calendar++) {
            int c = calendar;
            // So far one gets with a day within the bounds at both ends; 20000 years more are always too many.
            int most = ages(c);
            Edge.is(most + " years of " + c, Oracle.of(c).later(FIRST, most, 0), x -> x.later(c, FIRST, most, 0));
            Edge.is(-most + " years of " + c, Oracle.of(c).later(LAST, -most, 0), x -> x.later(c, LAST, -most, 0));
            Edge.refuses("20000 years of " + c, Edge.STATE, x -> x.later(c, FIRST, 20000, 0));
            Edge.refuses("-20000 years of " + c, Edge.STATE, x -> x.later(c, LAST, -20000, 0));
        }
    }

    /** The greatest n for which n years on from the lowest day, and back from the highest one, stay within. */
    private static int ages(int calendar) {
        Oracle oracle = Oracle.of(calendar);
        int years = oracle.years[oracle.at(LAST)] - oracle.years[oracle.at(FIRST)] - 1;
        while (oracle.later(FIRST, years, 0) > LAST || oracle.later(LAST, -years, 0) < FIRST) {
            years--;
        }
        return years;
    }

    private static void laterBeyond() {
        String sentence = "Throws `IllegalStateException` if day, or the day that is told, is out of the bounds, or the "
            + "years are left";
        Edge.of(11, sentence, "the day");
        for (int calendar = 0; calendar <= 18; calendar++) {
            int c = calendar;
            Edge.days("day of " + c, d -> x -> x.later(c, d, 0, 0));
        }
        Edge.refuses("a day above, back within", Edge.STATE, x -> x.later(0, LAST + 1, -1, 0));
        Edge.refuses("a day below, on within", Edge.STATE, x -> x.later(0, FIRST - 1, 0, 1));
        Edge.of(11, sentence, "the day that is told");
        for (int calendar = 0; calendar <= 18; calendar++) {
            int c = calendar;
            Oracle oracle = Oracle.of(c);
            int last = oracle.at(LAST);
            int first = oracle.at(FIRST);
            // The months at the bounds are cut, so the same day a month on or back is within or not by one day.
            for (long day : new long[] {oracle.starts[last], oracle.starts[last] - 1, LAST - 40, LAST - 31, LAST - 30,
                    LAST - 29, LAST - 28, LAST - 20, LAST - 19, LAST - 18, LAST - 8, LAST - 7, LAST - 6}) {
                told(c, day, 0, 1);
            }
            for (long day : new long[] {oracle.starts[first + 1], oracle.starts[first + 1] - 1, FIRST + 40, FIRST + 31,
                    FIRST + 30, FIRST + 29, FIRST + 28, FIRST + 20, FIRST + 19, FIRST + 18, FIRST + 8, FIRST + 7, FIRST + 6}) {
                told(c, day, 0, -1);
            }
            for (int i = 350; i < 388; i++) {
                told(c, LAST - i, 1, 0);
                told(c, FIRST + i, -1, 0);
            }
            told(c, LAST, 0, 0);
            told(c, FIRST, 0, 0);
        }
        Edge.of(11, sentence, "the years are left");
        for (int calendar = 0; calendar <= 18; calendar++) {
            int c = calendar;
            Edge.refuses("above, by " + c, Edge.STATE, x -> x.later(c, LAST, 20000, 0));
            Edge.refuses("below, by " + c, Edge.STATE, x -> x.later(c, FIRST, -20000, 0));
            Edge.refuses("above, and 1000 months back, by " + c, Edge.STATE, x -> x.later(c, LAST, 20000, -1000));
            Edge.refuses("below, and 1000 months on, by " + c, Edge.STATE, x -> x.later(c, FIRST, -20000, 1000));
        }
        int years = Oracle.of(11).years[Oracle.of(11).at(FIRST)];
        Edge.refuses("the first year of 11", Edge.STATE, x -> x.later(11, FIRST, 1 - years, 0));
        Edge.refuses("ahead of the first year of 11", Edge.STATE, x -> x.later(11, FIRST, -years, 0));
        Edge.refuses("ahead of it and 1000 months on", Edge.STATE, x -> x.later(11, FIRST, -years, 1000));
    }

    private static void told(int calendar, long day, int years, int months) {
        long due = Oracle.of(calendar).later(day, years, months);
        String what = day + " and " + years + " years, " + months + " months, by " + calendar;
        if (due >= FIRST && due <= LAST) {
            Edge.is(what, due, x -> x.later(calendar, day, years, months));
        } else {
            Edge.refuses(what, Edge.STATE, x -> x.later(calendar, day, years, months));
        }
    }

    private static void age() {
        Edge.of(12, NO_CALENDAR);
        Edge.calendars(c -> x -> x.age(c, 1, 730120));
        Edge.of(12, DAY_BEYOND, "from");
        Edge.days("from", d -> x -> x.age(0, d, LAST));
        Edge.of(12, DAY_BEYOND, "to");
        Edge.days("to", d -> x -> x.age(0, FIRST, d));
        Edge.of(12, EARLIER);
        for (int calendar = 0; calendar <= 18; calendar++) {
            int c = calendar;
            Edge.refuses("a day earlier, by " + c, Edge.ARGUMENT, x -> x.age(c, 730120, 730119));
            Edge.refuses("all days, by " + c, Edge.ARGUMENT, x -> x.age(c, LAST, FIRST));
        }
        Edge.of(12, "Returns the number, 0 or more.", "a day less than a year, and a year");
        Edge.is("0", 0, x -> x.age(0, day(2001, 3, 1), day(2002, 2, 28)));
        Edge.is("1", 1, x -> x.age(0, day(2001, 3, 1), day(2002, 3, 1)));
        Edge.of(12, "`to`: a day, not earlier");
        for (int calendar = 0; calendar <= 18; calendar++) {
            int c = calendar;
            for (long day : new long[] {FIRST, 577735, 577736, 730120, LAST}) {
                Edge.is("the same day " + day + " of " + c, 0, x -> x.age(c, day, day));
            }
        }
        Edge.of(12, "the greatest n for which the first one LATER by n years is not later than the other one",
            "on the day, a day ahead, a day behind");
        for (int calendar = 0; calendar <= 18; calendar++) {
            int c = calendar;
            for (int years : new int[] {1, 2, 7, 100}) {
                long day = Oracle.of(c).later(700001, years, 0);
                Edge.is(years + " years of " + c + ", a day ahead", years - 1, x -> x.age(c, 700001, day - 1));
                Edge.is(years + " years of " + c, years, x -> x.age(c, 700001, day));
                Edge.is(years + " years of " + c + ", a day behind", years, x -> x.age(c, 700001, day + 1));
            }
        }
        Edge.of(12, "the greatest n for which the first one LATER by n years is not later than the other one",
            "all days within the bounds");
        for (int calendar = 0; calendar <= 18; calendar++) {
            int c = calendar;
            int years = ages(c);
            while (Oracle.of(c).later(FIRST, years + 1, 0) <= LAST) {
                years++;
            }
            Edge.is("the age by " + c, years, x -> x.age(c, FIRST, LAST));
        }
    }

    private static void ageMonths() {
        Edge.of(13, NO_CALENDAR);
        Edge.calendars(c -> x -> x.ageMonths(c, 1, 730120));
        Edge.of(13, DAY_BEYOND, "from");
        Edge.days("from", d -> x -> x.ageMonths(0, d, LAST));
        Edge.of(13, DAY_BEYOND, "to");
        Edge.days("to", d -> x -> x.ageMonths(0, FIRST, d));
        Edge.of(13, EARLIER);
        for (int calendar = 0; calendar <= 18; calendar++) {
            int c = calendar;
            Edge.refuses("a day earlier, by " + c, Edge.ARGUMENT, x -> x.ageMonths(c, 730120, 730119));
            Edge.refuses("all days, by " + c, Edge.ARGUMENT, x -> x.ageMonths(c, LAST, FIRST));
        }
        Edge.of(13, "Returns the number, 0 or more.", "a day less than a month, and a month");
        Edge.is("0", 0, x -> x.ageMonths(0, day(2001, 3, 1), day(2001, 3, 31)));
        Edge.is("1", 1, x -> x.ageMonths(0, day(2001, 3, 1), day(2001, 4, 1)));
        Edge.is("11", 11, x -> x.ageMonths(0, day(2001, 3, 1), day(2002, 2, 28)));
        Edge.is("0 behind a year", 0, x -> x.ageMonths(0, day(2001, 3, 1), day(2002, 3, 1)));
        Edge.of(13, "`to`: a day, not earlier");
        for (int calendar = 0; calendar <= 18; calendar++) {
            int c = calendar;
            for (long day : new long[] {FIRST, 577735, 577736, 730120, LAST}) {
                Edge.is("the same day " + day + " of " + c, 0, x -> x.ageMonths(c, day, day));
            }
        }
        String sentence = "the greatest n for which the first day LATER by these years and n months is not later than the "
            + "other one";
        Edge.of(13, sentence, "on the day, a day ahead, a day behind");
        for (int calendar = 0; calendar <= 18; calendar++) {
            int c = calendar;
            Oracle oracle = Oracle.of(c);
            long birthday = oracle.later(700001, 3, 0);
            long next = oracle.later(700001, 4, 0);
            Edge.is("none behind the years by " + c, 0, x -> x.ageMonths(c, 700001, birthday));
            int months = 1;
            for (long day = oracle.later(700001, 3, 1); day < next; day = oracle.later(700001, 3, months)) {
                long to = day;
                int due = months;
                Edge.is(months + " months of " + c + ", a day ahead", due - 1, x -> x.ageMonths(c, 700001, to - 1));
                Edge.is(months + " months of " + c, due, x -> x.ageMonths(c, 700001, to));
                months++;
            }
            int most = months - 1;
            Edge.is("the day ahead of the next year by " + c, most, x -> x.ageMonths(c, 700001, next - 1));
            Edge.is("the next year by " + c, 0, x -> x.ageMonths(c, 700001, next));
        }
        Edge.of(13, sentence, "at the end of the bounds");
        for (int calendar = 0; calendar <= 18; calendar++) {
            int c = calendar;
            for (long from : new long[] {LAST - 1, LAST - 7, LAST - 29, LAST - 200, LAST - 364, LAST - 366}) {
                Edge.is(from + " by " + c, monthsDue(c, from), x -> x.ageMonths(c, from, LAST));
            }
        }
    }

    private static int monthsDue(int calendar, long from) {
        int years = Oracle.of(calendar).later(from, 1, 0) <= LAST ? 1 : 0;
        int months = 0;
        while (Oracle.of(calendar).later(from, years, months + 1) <= LAST) {
            months++;
        }
        return months;
    }

    private static void remembrance() {
        Edge.of(14, NO_CALENDAR);
        Edge.calendars(c -> x -> x.remembrance(c, 1, 730120));
        String beyond = "Throws `IllegalStateException` if a day, or the one that is told, is out of the bounds";
        Edge.of(14, beyond, "the day that is remembered");
        Edge.refusesLongs("day", Edge.STATE, d -> x -> x.remembrance(0, d, 5), Edge.BEYOND);
        Edge.takes("the lowest one", x -> x.remembrance(0, FIRST, 5));
        Edge.refuses("the highest one: what is told is above", Edge.STATE, x -> x.remembrance(0, LAST, 5));
        Edge.of(14, beyond, "the day behind");
        Edge.refusesLongs("behind", Edge.STATE, d -> x -> x.remembrance(0, 5, d), Edge.BEYOND);
        Edge.takes("the lowest one", x -> x.remembrance(0, 5, FIRST));
        Edge.refuses("the highest one: what is told is above", Edge.STATE, x -> x.remembrance(0, 5, LAST));
        Edge.of(14, beyond, "the one that is told");
        for (int calendar = 0; calendar <= 18; calendar++) {
            int c = calendar;
            // The latest day that has a year behind it within the bounds.
            long day = LAST - 340;
            while (Oracle.of(c).later(day, 1, 0) > LAST) {
                day--;
            }
            long from = day;
            long due = Oracle.of(c).later(from, 1, 0);
            Edge.is("the last one told by " + c, due, x -> x.remembrance(c, from, due - 1));
            Edge.is("the last one told by " + c + ", by a day far ahead", due, x -> x.remembrance(c, from, FIRST));
            Edge.refuses("none behind it by " + c, Edge.STATE, x -> x.remembrance(c, from, due));
            Edge.refuses("the day behind it by " + c, Edge.STATE, x -> x.remembrance(c, from + 1, FIRST));
        }
        Edge.of(14, "for some n of 1 or more");
        for (int calendar = 0; calendar <= 18; calendar++) {
            int c = calendar;
            long due = Oracle.of(c).later(700001, 1, 0);
            for (long behind : new long[] {FIRST, 699000, 699999, 700000, 700001, 700002, due - 1}) {
                Edge.is("behind " + behind + " by " + c, due, x -> x.remembrance(c, 700001, behind));
            }
        }
        Edge.of(14, "the least day later than a day");
        for (int calendar = 0; calendar <= 18; calendar++) {
            int c = calendar;
            for (int years : new int[] {1, 2, 50}) {
                long day = Oracle.of(c).later(700001, years, 0);
                long next = Oracle.of(c).later(700001, years + 1, 0);
                Edge.is("a day ahead by " + c, day, x -> x.remembrance(c, 700001, day - 1));
                Edge.is("on it by " + c, next, x -> x.remembrance(c, 700001, day));
                Edge.is("a day behind by " + c, next, x -> x.remembrance(c, 700001, day + 1));
            }
        }
    }

    private static void near() {
        Edge.of(15, "Throws `IllegalStateException` if day is out of the bounds");
        for (int how = 0; how <= 4; how++) {
            int h = how;
            Edge.days("day, how " + h, d -> x -> x.near(d, 1, h));
        }
        Edge.of(15, "Throws `IllegalArgumentException` if weekday or how is out of range", "weekday");
        Edge.range("weekday", Edge.ARGUMENT, 1, 7, w -> x -> x.near(1, w, 0));
        Edge.of(15, "`weekday`: 1 to 7");
        Edge.is("1 is Monday", 1L, x -> x.near(1, 1, 0));
        Edge.is("7 is Sunday", 7L, x -> x.near(7, 7, 0));
        Edge.of(15, "Throws `IllegalArgumentException` if weekday or how is out of range", "how");
        Edge.range("how", Edge.ARGUMENT, 0, 4, h -> x -> x.near(1, 1, h));
        Edge.of(15, "`how`: 0 the latest one not later, 1 the earliest one not earlier, 2 the nearest one, 3 the latest "
            + "one earlier, 4 the earliest one later", "on the weekday itself, and the days beside it");
        long[][] due = {{1, 8, 1, 1, 8}, {1, 1, 1, -6, 8}, {-6, 1, 1, -6, 1}};
        for (int how = 0; how <= 4; how++) {
            int h = how;
            Edge.is("a day behind a Monday, how " + h, due[0][how], x -> x.near(2, 1, h));
            Edge.is("on a Monday, how " + h, due[1][how], x -> x.near(1, 1, h));
            Edge.is("a day ahead of a Monday, how " + h, due[2][how], x -> x.near(0, 1, h));
        }
        Edge.of(15, "2 the nearest one", "three days ahead and behind, and four");
        Edge.is("3 behind", 1L, x -> x.near(4, 1, 2));
        Edge.is("4 behind, 3 ahead", 8L, x -> x.near(5, 1, 2));
        Edge.is("3 ahead, below 0", -6L, x -> x.near(-9, 1, 2));
        Edge.is("4 ahead, below 0", -13L, x -> x.near(-10, 1, 2));
        Edge.of(15, "Returns the day; it can be out of the bounds.");
        int first = weekday(FIRST);
        int last = weekday(LAST);
        Edge.is("the latest one earlier", FIRST - 7, x -> x.near(FIRST, first, 3));
        Edge.is("the latest one not later", FIRST - 1, x -> x.near(FIRST, (first + 5) % 7 + 1, 0));
        Edge.is("the nearest one, below", FIRST - 3, x -> x.near(FIRST, (first + 3) % 7 + 1, 2));
        Edge.is("the earliest one later", LAST + 7, x -> x.near(LAST, last, 4));
        Edge.is("the earliest one not earlier", LAST + 1, x -> x.near(LAST, last % 7 + 1, 1));
        Edge.is("the nearest one, above", LAST + 3, x -> x.near(LAST, (last + 2) % 7 + 1, 2));
        Edge.is("the day itself, below", FIRST, x -> x.near(FIRST, first, 0));
        Edge.is("the day itself, above", LAST, x -> x.near(LAST, last, 1));
    }

    private static int weekday(long day) {
        return (int) Math.floorMod(day - 1, 7L) + 1;
    }

    private static void nth() {
        Edge.of(16, NO_CALENDAR);
        Edge.calendars(c -> x -> x.nth(c, 2500, 1, 1, 1));
        String argument = "Throws `IllegalArgumentException` if there is no such year, it has no such month, weekday is out "
            + "of range, or n is 0";
        Edge.of(16, argument, "the year");
        for (int calendar = 0; calendar <= 18; calendar++) {
            int c = calendar;
            Edge.refusesInts("year of " + c, Edge.ARGUMENT, y -> x -> x.nth(c, y, 1, 1, 1),
                Integer.MIN_VALUE, -10000, 20000, Integer.MAX_VALUE);
        }
        Edge.refuses("0 of 1", Edge.ARGUMENT, x -> x.nth(1, 0, 1, 1, 1));
        Edge.refuses("0 of 2", Edge.ARGUMENT, x -> x.nth(2, 0, 1, 1, 1));
        Edge.of(16, argument, "the month");
        for (int calendar = 0; calendar <= 18; calendar++) {
            int c = calendar;
            Oracle oracle = Oracle.of(c);
            int last = oracle.numbers[oracle.firstOf(2500) + oracle.countOf(2500) - 1];
            Edge.refusesInts("month of " + c, Edge.ARGUMENT, m -> x -> x.nth(c, 2500, m, 1, 1),
                Integer.MIN_VALUE, -1, 0, last + 1, Integer.MAX_VALUE);
            Edge.takes("the first month of " + c, x -> x.nth(c, 2500, 1, 1, 1));
            Edge.takes("the last month of " + c, x -> x.nth(c, 2500, last, firstWeekday(oracle, 2500, last), 1));
        }
        Edge.of(16, argument, "the weekday");
        Edge.range("weekday", Edge.ARGUMENT, 1, 7, w -> x -> x.nth(0, 2000, 1, w, 1));
        Edge.of(16, "`weekday`: 1 to 7");
        Edge.is("1 is Monday", day(2024, 1, 1), x -> x.nth(0, 2024, 1, 1, 1));
        Edge.is("7 is Sunday", day(2024, 1, 7), x -> x.nth(0, 2024, 1, 7, 1));
        Edge.of(16, argument, "n");
        for (int calendar = 0; calendar <= 18; calendar++) {
            int c = calendar;
            Edge.refuses("n 0 of " + c, Edge.ARGUMENT, x -> x.nth(c, 2500, 1, 1, 0));
        }
        Edge.of(16, "`n`: 1 for the first one, 2, and so on; -1 for the last one, -2 for that ahead of it, and so on");
        for (int n = 1; n <= 5; n++) {
            int number = n;
            Edge.is("n " + n, day(2024, 1, 7 * n - 6), x -> x.nth(0, 2024, 1, 1, number));
            Edge.is("n " + -n, day(2024, 1, 36 - 7 * n), x -> x.nth(0, 2024, 1, 1, -number));
        }
        Edge.of(16, "Throws `NoSuchElementException` if the month has not so many");
        for (int n : new int[] {6, -6, 7, -7, 1000, -1000, Integer.MAX_VALUE, Integer.MIN_VALUE, Integer.MIN_VALUE + 1,
                Integer.MAX_VALUE / 7 + 2}) {
            Edge.refuses("n " + n, Edge.NO_SUCH, x -> x.nth(0, 2024, 1, 1, n));
        }
        Edge.is("four of the weekday behind the last one", day(2024, 1, 25), x -> x.nth(0, 2024, 1, 4, 4));
        Edge.refuses("and not five", Edge.NO_SUCH, x -> x.nth(0, 2024, 1, 4, 5));
        Edge.is("four from behind", day(2024, 1, 4), x -> x.nth(0, 2024, 1, 4, -4));
        Edge.refuses("and not five from behind", Edge.NO_SUCH, x -> x.nth(0, 2024, 1, 4, -5));
        Edge.is("five of the weekday of the last one", day(2024, 1, 31), x -> x.nth(0, 2024, 1, 3, 5));
        Edge.refuses("a month of 5 days has not all weekdays", Edge.NO_SUCH,
            x -> x.nth(3, 2, 13, firstWeekday(Oracle.of(3), 2, 13) == 1 ? 7 : firstWeekday(Oracle.of(3), 2, 13) - 1, 1));
        Edge.refuses("the same from behind", Edge.NO_SUCH,
            x -> x.nth(3, 2, 13, firstWeekday(Oracle.of(3), 2, 13) == 1 ? 7 : firstWeekday(Oracle.of(3), 2, 13) - 1, -1));
    }

    private static int firstWeekday(Oracle oracle, int year, int month) {
        int at = oracle.firstOf(year);
        while (oracle.numbers[at] != month) {
            at++;
        }
        return weekday(oracle.starts[at]);
    }

    private static void nthBeyond() {
        String state = "Throws `IllegalStateException` if the year has not begun, or the day is out of the bounds";
        Edge.of(16, state, "the year has not begun");
        Edge.refusesInts("year", Edge.STATE, y -> x -> x.nth(11, y, 1, 1, 1), -9999, -1, 0);
        Edge.refusesInts("month of the year 0", Edge.STATE, m -> x -> x.nth(11, 0, m, 1, 1),
            Integer.MIN_VALUE, 0, 14, Integer.MAX_VALUE);
        Edge.of(16, state, "the day is out of the bounds");
        for (int calendar = 0; calendar <= 18; calendar++) {
            int c = calendar;
            Oracle oracle = Oracle.of(c);
            for (long bound : new long[] {FIRST, LAST}) {
                int at = oracle.at(bound);
                for (long day = Math.max(oracle.starts[at], bound - 8); day < oracle.starts[at + 1] && day < bound + 9; day++) {
                    int n = (int) (day - oracle.starts[at]) / 7 + 1;
                    int behind = -((int) (oracle.starts[at + 1] - 1 - day) / 7 + 1);
                    nthAt(c, oracle.years[at], oracle.numbers[at], day, n);
                    nthAt(c, oracle.years[at], oracle.numbers[at], day, behind);
                }
            }
        }
    }

    private static void nthAt(int calendar, int year, int month, long day, int n) {
        String what = "the day " + day + " of " + calendar + ", n " + n;
        Edge.Act act = x -> x.nth(calendar, year, month, weekday(day), n);
        if (day < FIRST || day > LAST) {
            Edge.refuses(what, Edge.STATE, act);
        } else {
            Edge.is(what, day, act);
        }
    }
}
