/** The boundary cases of the calendar 11 in the section 2: its long years, the delays of its first days, its months. */
final class EdgeHebrewTest {
    private static final String PART = "2. CALENDARS";
    private static final String DELAY_A = "(a) if R is 19440 or more, it is one day later";
    private static final String DELAY_B =
        "if the year is not long, the day is a Tuesday, and R is 9924 or more, it is two days later";
    private static final String DELAY_C =
        "if the year ahead is long, the day is a Monday, and R is 16789 or more, it is one day later";

    private EdgeHebrewTest() {
    }

    static void run() {
        longYears();
        limits();
        places();
        weekdays();
        for (int length : new int[] {353, 354, 355, 383, 384, 385}) {
            lengths(length);
        }
        notBegun();
    }

    private static boolean isLong(int year) {
        return Math.floorMod(7 * year + 1, 19) < 7;
    }

    private static long parts(int year) {
        return 5604 + 765433 * Math.floorDiv(235L * year - 234, 19L);
    }

    private static int rest(int year) {
        return (int) Math.floorMod(parts(year), 25920L);
    }

    private static long moonDay(int year) {
        return -1373427 + Math.floorDiv(parts(year), 25920L);
    }

    private static int weekday(long day) {
        return (int) Math.floorMod(day, 7L);
    }

    /** The delay (d) alone. */
    private static long further(long day) {
        return weekday(day) == 0 || weekday(day) == 3 || weekday(day) == 5 ? day + 1 : day;
    }

    private static boolean isB(int year) {
        return !isLong(year) && weekday(moonDay(year)) == 2;
    }

    private static boolean isC(int year) {
        return isLong(year - 1) && weekday(moonDay(year)) == 1;
    }

    private static void longYears() {
        Edge.in(PART, "a year is long if the rest of 7 * y + 1 by 19 is less than 7");
        for (int year = 1; year <= 19999; year += year == 38 ? 19943 : 1) {
            int y = year;
            Edge.is("the month 13 of " + y, isLong(y), x -> x.isLawful(11, y, 13, 1));
            Edge.is("the month 12 of " + y, true, x -> x.isLawful(11, y, 12, 1));
        }
        Edge.in(PART, "It has 12 months, a long one 13.", "the 12th and the 13th of both");
        for (int year = 5783; year <= 5787; year++) {
            int y = year;
            Edge.is("the last month of " + y, isLong(y) ? 13 : 12, x -> x.monthAt(11, y, isLong(y) ? 12 : 11));
            Edge.refuses("a month more of " + y, Edge.NO_SUCH, x -> x.monthAt(11, y, isLong(y) ? 13 : 12));
        }
    }

    private static void limits() {
        Edge.in(PART, DELAY_A, "the years with an R next to it");
        beside(19440, 0);
        Edge.in(PART, DELAY_B, "the years with an R next to it");
        beside(9924, 1);
        Edge.in(PART, DELAY_C, "the years with an R next to it");
        beside(16789, 2);
    }

    private static void places() {
        Edge.in(PART, DELAY_B, "each place of the year among 19");
        for (int place = 0; place < 19; place++) {
            delayed(place, 2, 9924);
        }
        Edge.in(PART, DELAY_C, "each place of the year among 19");
        for (int place = 0; place < 19; place++) {
            delayed(place, 1, 16789);
        }
    }

    private static void weekdays() {
        Edge.in(PART, "(d) If the day is then a Sunday, a Wednesday or a Friday, it is one day later still.",
            "no year begins so");
        for (int year = 5000; year < 5300; year++) {
            int y = year;
            Edge.is("the first day of " + y + " is none of them", true, x -> x.newYear(11, y) == further(x.newYear(11, y)));
        }
        Edge.in(PART, "(d) If the day is then a Sunday, a Wednesday or a Friday, it is one day later still.",
            "each weekday of the mean moon, with and without (a)");
        for (int weekday = 0; weekday < 7; weekday++) {
            byWeekday(weekday, false);
            byWeekday(weekday, true);
        }
    }

    private static void byWeekday(int weekday, boolean isLate) {
        int seen = 0;
        for (int year = 1; year <= 19999 && seen < 5; year++) {
            int y = year;
            if (weekday(moonDay(y)) == weekday && isLate == rest(y) >= 19440) {
                long day = moonDay(y) + (isLate ? 1 : otherwise(y));
                Edge.is("the first day of " + y, further(day), x -> x.newYear(11, y));
                seen++;
            }
        }
        Check.holds("there are such years", seen == 5);
    }

    /** Years with this place among 19 whose mean moon is on the weekday, with an R from the limit to 19440. */
    private static void delayed(int place, int weekday, int limit) {
        int seen = 0;
        for (int year = 19 + place; year <= 19999 && seen < 4; year += 19) {
            int y = year;
            if (weekday(moonDay(y)) == weekday && rest(y) >= limit && rest(y) < 19440) {
                long late = weekday == 2 ? (isLong(y) ? 0 : 2) : isLong(y - 1) ? 1 : 0;
                Edge.is("the first day of " + y, further(moonDay(y) + late), x -> x.newYear(11, y));
                seen++;
            }
        }
        Check.holds("there are such years", seen > 0);
    }

    /** The first days of the years whose R is next to a limit, on both of its sides. */
    private static void beside(int limit, int delay) {
        int below = 0;
        int above = 0;
        for (int year = 1; year <= 19999; year++) {
            int y = year;
            int more = rest(y) - limit;
            boolean isOfThis = delay == 0 || (delay == 1 ? isB(y) : isC(y));
            if (isOfThis && more >= -60 && more <= 60) {
                below += more < 0 ? 1 : 0;
                above += more >= 0 ? 1 : 0;
                long late = more < 0 ? (delay == 0 ? otherwise(y) : 0) : delay == 1 ? 2 : 1;
                Edge.is("the first day of " + y + " with R " + rest(y), further(moonDay(y) + late), x -> x.newYear(11, y));
            }
        }
        Check.holds("there are such years, " + below + " and " + above, below > 0 && above > 0);
    }

    /** What the delays (b) and (c) add where (a) does not hold. */
    private static long otherwise(int year) {
        return isB(year) && rest(year) >= 9924 ? 2 : isC(year) && rest(year) >= 16789 ? 1 : 0;
    }

    private static void lengths(int length) {
        Edge.in(PART, "If the year, from FIRST(y) to FIRST(y + 1), is a day longer than this, the second month has a day more; "
            + "if it is a day shorter, the third one has a day less.", "a year of " + length + " days");
        int seen = 0;
        for (int year = 5700; year < 5800 && seen < 5; year++) {
            if (new Manydays().yearLength(11, year) == length) {
                int second = length % 10 == 5 ? 30 : 29;
                int third = length % 10 == 3 ? 29 : 30;
                if (length < 360) {
                    EdgeYears.months(11, year, 30, second, third, 29, 30, 29, 30, 29, 30, 29, 30, 29);
                } else {
                    EdgeYears.months(11, year, 30, second, third, 29, 30, 30, 29, 30, 29, 30, 29, 30, 29);
                }
                seen++;
            }
        }
        Check.holds("there are such years", seen > 0);
    }

    private static void notBegun() {
        Edge.in(PART, "Years below 1 have not begun (refused by IllegalStateException, whatever the month).");
        for (int year : new int[] {-9999, -1, 0}) {
            int y = year;
            Edge.refuses("newYear " + y, Edge.STATE, x -> x.newYear(11, y));
            Edge.refuses("yearLength " + y, Edge.STATE, x -> x.yearLength(11, y));
            Edge.refuses("meanYear " + y, Edge.STATE, x -> x.meanYear(11, y, 1));
            for (int month : new int[] {Integer.MIN_VALUE, -1, 0, 1, 13, 14, Integer.MAX_VALUE}) {
                Edge.refuses("monthAt " + y + " " + month, Edge.STATE, x -> x.monthAt(11, y, month));
                Edge.refuses("monthLength " + y + " " + month, Edge.STATE, x -> x.monthLength(11, y, month));
                Edge.refuses("nth " + y + " " + month, Edge.STATE, x -> x.nth(11, y, month, 1, 1));
                Edge.refuses("table " + y + " " + month, Edge.STATE, x -> x.table(11, 0, y, month));
                Edge.is("isLawful " + y + " " + month, false, x -> x.isLawful(11, y, month, 1));
            }
        }
        Edge.is("the year 1 has", -1373427L, x -> x.newYear(11, 1));
    }
}
