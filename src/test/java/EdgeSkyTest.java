/** The boundary cases of the calendars 17 and 18 in the section 2: months by the sun, and moons with and without a term. */
final class EdgeSkyTest {
    private static final String PART = "2. CALENDARS";

    private EdgeSkyTest() {
    }

    static void run() {
        sunMonths();
        sunCounts();
        terms();
        evenMoons();
        moonsOfYears();
        moonDays();
    }

    /** The month count, as the document tells it. */
    private static long count(long day) {
        return Math.floorDiv((4 * (day + 1132959) + 1) * 1728, 210389L);
    }

    private static long moonDay(long moon) {
        return Math.floorDiv(765433 * moon, 25920L);
    }

    private static long termDay(long term) {
        return Math.floorDiv(146097 * term, 4800L);
    }

    /** The moon that has a day. */
    private static long moonOn(long day) {
        long moon = Math.min(Math.floorDiv(day, 29L), Math.floorDiv(day, 30L)) - 2;
        while (moonDay(moon + 1) <= day) {
            moon++;
        }
        return moon;
    }

    private static void sunMonths() {
        Edge.in(PART, "The year is the quotient of M by 12, rounded down, the month the rest, and 1.", "beside each month's end");
        Oracle oracle = Oracle.of(17);
        for (int year : new int[] {1000, 2000, 5000}) {
            for (int month = 1; month <= 12; month++) {
                sunMonth(year, month, oracle.dayOf(year, month, 1));
            }
        }
        Edge.in(PART, "days with one count are one month", "the last day of a month and the first one of the next");
        for (long day : new long[] {Edge.FIRST_DAY, 0, 730120, Edge.LAST_DAY - 40}) {
            long last = day;
            while (count(last + 1) == count(day)) {
                last++;
            }
            long end = last;
            Edge.is("one month up to " + end, true, x -> x.part(17, day, 1) == x.part(17, end, 1));
            Edge.is("another one behind " + end, false, x -> x.part(17, day, 1) == x.part(17, end + 1, 1));
            Edge.is("it begins with 1", 1, x -> x.part(17, end + 1, 2));
        }
    }

    private static void sunMonth(int year, int month, long first) {
        for (long day = first - 1; day <= first; day++) {
            long d = day;
            Edge.is("the year of " + d, Math.floorDiv(count(d), 12L), x -> x.part(17, d, 0));
            Edge.is("the month of " + d, Math.floorMod(count(d), 12L) + 1, x -> x.part(17, d, 1));
        }
        Check.holds("another count", count(first - 1) + 1 == count(first));
        Edge.is("the first day of the month " + month, 1, x -> x.part(17, first, 2));
        int length = Oracle.of(17).length(Oracle.of(17).at(first));
        Edge.is("its length", length, x -> x.monthLength(17, year, month));
        Edge.refuses("a day more", Edge.ARGUMENT, x -> x.dayOf(17, year, month, length + 1));
    }

    private static void sunCounts() {
        Edge.in(PART, "the month count M of the day d is the quotient of (4 * (d + 1132959) + 1) * 1728 by 210389, rounded down",
            "the years below 0 and 0, and the last one");
        for (int year : new int[] {-9999, -9998, -2, -1, 0, 1, 19998, 19999}) {
            int y = year;
            long first = new Manydays().newYear(17, y);
            Check.is("the count of the first day of " + y, 12L * y, () -> count(first));
            Check.is("the count of the day ahead", 12L * y - 1, () -> count(first - 1));
        }
        EdgeYears.first(17, 0, -1132959);
    }

    private static void terms() {
        Edge.in(PART, "A moon in which the term j falls is the month 2 * m - 1 of the year y",
            "a term on the first and on the last day of a moon");
        int atFirst = 0;
        int atLast = 0;
        for (long term = 12 * 1000; term < 12 * 1400; term++) {
            long day = termDay(term);
            long moon = moonOn(day);
            if (day == moonDay(moon) || day == moonDay(moon + 1) - 1) {
                Edge.is("the year of " + day, Math.floorDiv(term, 12L), x -> x.part(18, day, 0));
                Edge.is("the month of " + day, 2 * Math.floorMod(term, 12L) + 1, x -> x.part(18, day, 1));
                Edge.is("the day of " + day, day - moonDay(moon) + 1, x -> x.part(18, day, 2));
                atFirst += day == moonDay(moon) ? 1 : 0;
                atLast += day == moonDay(moon) ? 0 : 1;
            }
        }
        Check.holds("there are such terms", atFirst > 5 && atLast > 5);
        Edge.in(PART, "the term j falls on the day that is the quotient of 146097 * j by 4800, rounded down",
            "the moon of the first term, of the year's first month");
        for (int year : new int[] {-9999, -1, 0, 1, 2000, 19999}) {
            EdgeYears.first(18, year, moonDay(moonOn(termDay(12L * year))));
        }
    }

    private static void evenMoons() {
        Edge.in(PART, "A moon without a term is the month with the next higher number than that of the moon ahead of it, of the "
            + "same year.", "also behind the last term of a year");
        Oracle oracle = Oracle.of(18);
        int seen = 0;
        int behindLast = 0;
        for (int at = oracle.at(300000); at < oracle.at(500000); at++) {
            long start = oracle.starts[at];
            int number = oracle.numbers[at];
            if (number % 2 == 0) {
                Edge.is("the month of " + start, number, x -> x.part(18, start, 1));
                Edge.is("the month ahead", number - 1, x -> x.part(18, start - 1, 1));
                Edge.is("the years are one", true, x -> x.part(18, start, 0) == x.part(18, start - 1, 0));
                seen++;
                behindLast += number == 24 ? 1 : 0;
            }
        }
        Check.holds("there are such moons: " + seen + " and " + behindLast, seen > 50 && behindLast > 0);
    }

    private static void moonsOfYears() {
        Edge.in(PART, "No moon has two terms, and no two moons one behind the other have none.", "12 or 13 moons a year");
        for (int year : new int[] {-9999, -1, 0, 1, 2000, 2001, 2002, 2003, 2004, 2005, 19999}) {
            int y = year;
            int count = Oracle.of(18).countOf(y);
            Check.holds("the moons of " + y, count == 12 || count == 13);
            Edge.takes("the last moon of " + y, x -> x.monthAt(18, y, count - 1));
            Edge.refuses("a moon more of " + y, Edge.NO_SUCH, x -> x.monthAt(18, y, count));
            for (int month = 1; month <= 23; month += 2) {
                int m = month;
                Edge.takes("the month " + m + " of " + y, x -> x.monthLength(18, y, m));
            }
        }
    }

    private static void moonDays() {
        Edge.in(PART, "the moon k (any whole number) begins on the day that is the quotient of 765433 * k by 25920, rounded down",
            "first days, last days");
        for (long k = -3; k < 20; k++) {
            long first = moonDay(k);
            long next = moonDay(k + 1);
            Edge.is("the moon " + k, 1, x -> x.part(18, first, 2));
            Edge.is("the last day of the moon " + k, (int) (next - first), x -> x.part(18, next - 1, 2));
        }
    }
}
