/** The boundary cases of the section 2: each calendar's long years, its first year, and its months. */
final class EdgeCalendarsTest {
    private static final String PART = "2. CALENDARS";

    private EdgeCalendarsTest() {
    }

    static void run() {
        years();
        lawful();
        civil();
        mixed();
        thirties();
        islamic();
        hebrewDelays();
        hebrewMonths();
        hebrewNotBegun();
        persian();
        bahai();
        indian();
        french();
        weeks();
        sun();
        moons();
    }

    private static void length(int calendar, int due, int... years) {
        for (int year : years) {
            Edge.is("the year " + year + " of " + calendar, due, x -> x.yearLength(calendar, year));
            Edge.is("the months of " + year + " of " + calendar, due, x -> sumOfMonths(x, calendar, year));
        }
    }

    private static int sumOfMonths(Manydays x, int calendar, int year) {
        int sum = 0;
        try {
            for (int i = 0; i < 60; i++) {
                sum += x.monthLength(calendar, year, x.monthAt(calendar, year, i));
            }
        } catch (java.util.NoSuchElementException e) {
            return sum;
        }
        return -1;
    }

    private static void month(int calendar, int year, int month, int due) {
        Edge.is("the month " + month + " of " + year + " of " + calendar, due, x -> x.monthLength(calendar, year, month));
    }

    private static void months(int calendar, int year, int... due) {
        for (int i = 0; i < due.length; i++) {
            int index = i;
            Edge.is("the month " + i + " of " + year + " of " + calendar, i + 1, x -> x.monthAt(calendar, year, index));
            month(calendar, year, i + 1, due[i]);
        }
        Edge.refuses("a month more of " + calendar, Edge.NO_SUCH, x -> x.monthAt(calendar, year, due.length));
        Edge.refuses("the month " + (due.length + 1) + " of " + calendar, Edge.ARGUMENT,
            x -> x.monthLength(calendar, year, due.length + 1));
    }

    private static void first(int calendar, int year, long due) {
        Edge.is("the first day of " + year + " of " + calendar, due, x -> x.newYear(calendar, year));
    }

    private static void years() {
        Edge.in(PART, "A calendar has years (from -9999 to 19999)");
        for (int calendar = 0; calendar <= 18; calendar++) {
            int c = calendar;
            int lowest = c == 11 ? 1 : -9999;
            for (int year : new int[] {lowest, lowest + 1, 19998, 19999}) {
                Edge.takes("the year " + year + " of " + c, x -> x.newYear(c, year));
                Edge.takes("its length", x -> x.yearLength(c, year));
                Edge.takes("its first month", x -> x.monthAt(c, year, 0));
                Edge.takes("that one's length", x -> x.monthLength(c, year, 1));
                Edge.is("its first date", true, x -> x.isLawful(c, year, 1, 1));
            }
            for (int year : new int[] {-10000, 20000}) {
                Edge.refuses("the year " + year + " of " + c, Edge.ARGUMENT, x -> x.newYear(c, year));
                Edge.refuses("its length", Edge.ARGUMENT, x -> x.yearLength(c, year));
                Edge.refuses("its first month", Edge.ARGUMENT, x -> x.monthAt(c, year, 0));
                Edge.refuses("that one's length", Edge.ARGUMENT, x -> x.monthLength(c, year, 1));
                Edge.is("its first date", false, x -> x.isLawful(c, year, 1, 1));
            }
        }
        Edge.in(PART, "The years of all calendars but 1 and 2 have a year 0 ahead of the year 1");
        for (int calendar = 0; calendar <= 18; calendar++) {
            int c = calendar;
            if (c != 1 && c != 2 && c != 11) {
                Edge.is("the year 0 of " + c + " ends with the year 1", 0L,
                    x -> x.newYear(c, 0) + x.yearLength(c, 0) - x.newYear(c, 1));
                Edge.is("the year -1 of " + c + " ends with the year 0", 0L,
                    x -> x.newYear(c, -1) + x.yearLength(c, -1) - x.newYear(c, 0));
            }
        }
        Edge.in(PART, "in these two the year -1 is ahead of the year 1");
        for (int calendar = 1; calendar <= 2; calendar++) {
            int c = calendar;
            first(c, 1, -1);
            first(c, -1, -367);
            first(c, -2, -732);
            Edge.refuses("the year 0 of " + c, Edge.ARGUMENT, x -> x.newYear(c, 0));
            Edge.is("the year of the day ahead", -1, x -> x.part(c, -2, 0));
            Edge.is("the year of the first day", 1, x -> x.part(c, -1, 0));
        }
        Edge.in(PART, "years have months, one behind the other, with numbers that rise (not always each number)");
        for (int calendar = 0; calendar <= 18; calendar++) {
            int c = calendar;
            for (int year = 2500; year < 2510; year++) {
                int y = year;
                Edge.is("the months of " + y + " of " + c, true, x -> isRising(x, c, y));
            }
        }
        Edge.in(PART, "months have days with numbers that rise from 1 on");
        for (int calendar = 0; calendar <= 18; calendar++) {
            int c = calendar;
            long start = new Manydays().newYear(c, 2500);
            for (int i = 1; i <= 5; i++) {
                int date = i;
                Edge.is("the day " + date + " of " + c, date, x -> x.part(c, start + date - 1, 2));
            }
        }
    }

    private static boolean isRising(Manydays x, int calendar, int year) {
        int months = Oracle.of(calendar).countOf(year);
        for (int i = 1; i < months; i++) {
            if (x.monthAt(calendar, year, i) <= x.monthAt(calendar, year, i - 1)) {
                return false;
            }
        }
        return x.monthAt(calendar, year, 0) == 1;
    }

    private static void lawful() {
        String sentence = "A date is lawful if its year is from -9999 to 19999 (not 0 in 1 and 2; in 11 at least 1), it has the "
            + "month, and the month has the day.";
        Edge.in(PART, sentence, "the year");
        for (int calendar = 0; calendar <= 18; calendar++) {
            int c = calendar;
            for (int year : new int[] {Integer.MIN_VALUE, -10000, -9999, -1, 0, 1, 19999, 20000, Integer.MAX_VALUE}) {
                boolean isYear = year >= -9999 && year <= 19999 && (year != 0 || c != 1 && c != 2) && (year >= 1 || c != 11);
                Edge.is("the year " + year + " of " + c, isYear, x -> x.isLawful(c, year, 1, 1));
            }
        }
        Edge.in(PART, sentence, "the month");
        for (int calendar = 0; calendar <= 18; calendar++) {
            int c = calendar;
            Oracle oracle = Oracle.of(c);
            for (int month = -1; month <= 55; month++) {
                int m = month;
                Edge.is("the month " + m + " of " + c, oracle.dayOf(2500, m, 1) != Oracle.NO_DAY, x -> x.isLawful(c, 2500, m, 1));
            }
        }
        Edge.in(PART, sentence, "the day");
        for (int calendar = 0; calendar <= 18; calendar++) {
            int c = calendar;
            Oracle oracle = Oracle.of(c);
            for (int date = -1; date <= 35; date++) {
                int d = date;
                for (int month : new int[] {1, 12}) {
                    Edge.is("the day " + d + " of the month " + month + " of " + c,
                        oracle.dayOf(2500, month, d) != Oracle.NO_DAY, x -> x.isLawful(c, 2500, month, d));
                }
            }
        }
        Edge.in(PART, "an IndexOutOfBoundsException is thrown for another one", "each call that takes a calendar");
        for (int calendar : new int[] {Integer.MIN_VALUE, -1, 19, Integer.MAX_VALUE}) {
            int c = calendar;
            Edge.Act[] calls = {x -> x.dayOf(c, 1, 1, 1), x -> x.isLawful(c, 1, 1, 1), x -> x.part(c, 1, 0),
                x -> x.newYear(c, 1), x -> x.yearLength(c, 1), x -> x.monthAt(c, 1, 0), x -> x.monthLength(c, 1, 1),
                x -> x.later(c, 1, 0, 0), x -> x.age(c, 1, 1), x -> x.ageMonths(c, 1, 1), x -> x.remembrance(c, 1, 1),
                x -> x.nth(c, 1, 1, 1, 1), x -> x.drift(c, true), x -> x.far(c), x -> x.write(c, 1),
                x -> x.table(c, 0, 1, 1), x -> x.table(0, c, 1, 1), x -> x.reignAt(100, c, 0),
                x -> x.gather(c, 1, 1, 1, 1), x -> x.meanYear(c, 1, 1), x -> x.passed(c, 1)};
            for (int i = 0; i < calls.length; i++) {
                Edge.refuses("call " + i + " with " + c, Edge.INDEX, calls[i]);
            }
        }
    }

    private static void civil() {
        Edge.in(PART, "a year is long if it can be divided by 4, but not by 100 unless by 400");
        length(0, 366, 4, 8, 96, 104, 400, 1600, 2000, 2024, 19996, 0, -4, -400, -2000, -9996, -9600);
        length(0, 365, 1, 2, 3, 5, 99, 100, 101, 200, 300, 1700, 1900, 2100, 2023, 19900, 19999, -1, -2, -3, -100, -200, -9999,
            -9900);
        Edge.in(PART, "The 12 months have 31, 28 (29 in a long year), 31, 30, 31, 30, 31, 31, 30, 31, 30, 31 days.");
        months(0, 2023, 31, 28, 31, 30, 31, 30, 31, 31, 30, 31, 30, 31);
        months(0, 2024, 31, 29, 31, 30, 31, 30, 31, 31, 30, 31, 30, 31);
        Edge.in(PART, "1 JULIAN: long if z can be divided by 4; months as in 0; FIRST(1) is -1.");
        length(1, 366, 4, 100, 200, 1900, 2000, -1, -5, -101, -401, -9997);
        length(1, 365, 1, 2, 3, 99, 1899, 19999, -2, -3, -4, -100, -400, -9999);
        first(1, 1, -1);
        first(1, 2, 364);
        months(1, 1900, 31, 29, 31, 30, 31, 30, 31, 31, 30, 31, 30, 31);
        months(1, 1899, 31, 28, 31, 30, 31, 30, 31, 31, 30, 31, 30, 31);
        Edge.in(PART, "z stands for y, or, if y is below 0, for y + 1");
        length(1, 366, -1, 4, -5);
        length(1, 365, 1, -4, 3);
        length(2, 366, -1, 4, -5);
        length(2, 365, 1, -4, 3);
    }

    private static void mixed() {
        Edge.in(PART, "each day ahead of the change has its date by 1, each other one its date by 0.",
            "the days beside the change");
        for (long change : new long[] {500000, 500001, 577736, 620000, 739999, 740000}) {
            for (long day = change - 3; day <= change + 3; day++) {
                int by = day < change ? 1 : 0;
                long d = day;
                for (int what = 0; what < 3; what++) {
                    int w = what;
                    Manydays x = new Manydays();
                    x.setChange(change);
                    Check.is("part " + w + " of " + d + " with the change " + change, new Manydays().part(by, d, w),
                        () -> x.part(2, d, w));
                }
            }
        }
        Edge.in(PART, "The change is a day from 500000 to 740000, 577736 at first.");
        Edge.is("at first", 577736L, x -> x.setChange(577736));
        Edge.refuses("below", Edge.ARGUMENT, x -> x.setChange(499999));
        Edge.takes("the lowest", x -> x.setChange(500000));
        Edge.takes("the highest", x -> x.setChange(740000));
        Edge.refuses("above", Edge.ARGUMENT, x -> x.setChange(740001));
        Edge.in(PART, "Dates that no day has are not lawful");
        for (int date = 1; date <= 32; date++) {
            int d = date;
            Edge.is("October " + d, d <= 4 || d >= 15 && d <= 31, x -> x.isLawful(2, 1582, 10, d));
        }
        Edge.is("February 29 by 1 alone, behind the change", false, x -> x.isLawful(2, 1700, 2, 29));
        Edge.is("February 29 by 1 alone, ahead of the change", true, x -> x.isLawful(2, 1500, 2, 29));
        Edge.is("February 29 by 1 alone, on the day ahead of the change", true,
            Edge.withChange(Oracle.gregorian(1700, 3, 12), x -> x.isLawful(2, 1700, 2, 29)));
        Edge.is("February 29 by 1 alone, on the change", false,
            Edge.withChange(Oracle.gregorian(1700, 3, 11), x -> x.isLawful(2, 1700, 2, 29)));
        Edge.in(PART, "a month has just the lawful ones of its days");
        month(2, 1582, 9, 30);
        month(2, 1582, 10, 21);
        month(2, 1582, 11, 30);
        length(2, 355, 1582);
        length(2, 365, 1581, 1583);
        for (long change = Oracle.gregorian(1599, 12, 30); change <= Oracle.gregorian(1600, 1, 13); change++) {
            Oracle oracle = Oracle.mixed(change);
            for (int i = oracle.firstOf(1599) + 10; i < oracle.firstOf(1600) + 2; i++) {
                int at = i;
                Manydays x = new Manydays();
                x.setChange(change);
                Check.is("the month " + oracle.numbers[at] + " with the change " + change, oracle.length(at),
                    () -> x.monthLength(2, oracle.years[at], oracle.numbers[at]));
            }
        }
    }

    private static void thirties() {
        int[] five = {30, 30, 30, 30, 30, 30, 30, 30, 30, 30, 30, 30, 5};
        int[] six = {30, 30, 30, 30, 30, 30, 30, 30, 30, 30, 30, 30, 6};
        Edge.in(PART, "3 COPTIC: 12 months of 30 days and a 13th of 5, or 6 if the rest of y by 4 is 3; FIRST(1) is 103605.");
        months(3, 2, five);
        months(3, 3, six);
        months(3, 4, five);
        length(3, 366, 3, 7, 99, 103, 19999, -1, -5, -9997);
        length(3, 365, 0, 1, 2, 4, 100, 400, 19998, -2, -3, -4, -9999);
        first(3, 1, 103605);
        first(3, 0, 103605 - 365);
        first(3, 4, 103605 + 3 * 365 + 1);
        Edge.in(PART, "4 ETHIOPIC: as 3, but FIRST(1) is 2796.");
        months(4, 2, five);
        months(4, 3, six);
        length(4, 366, 3, -1);
        length(4, 365, 0, 1, 2, 4);
        first(4, 1, 2796);
        first(4, 4, 2796 + 3 * 365 + 1);
        Edge.in(PART, "5 EGYPTIAN: 12 months of 30 days and a 13th of 5; FIRST(1) is -272787.");
        months(5, 3, five);
        length(5, 365, -9999, -4, -1, 0, 1, 2, 3, 4, 400, 19999);
        first(5, 1, -272787);
        first(5, 2, -272787 + 365);
        first(5, 0, -272787 - 365);
        Edge.in(PART, "6 ARMENIAN: as 5, but FIRST(1) is 201443.");
        months(6, 3, five);
        length(6, 365, -9999, -4, -1, 0, 1, 2, 3, 4, 400, 19999);
        first(6, 1, 201443);
        first(6, 2, 201443 + 365);
    }

    private static void islamic() {
        int[][] rests = {{2, 5, 7, 10, 13, 15, 18, 21, 24, 26, 29}, {2, 5, 7, 10, 13, 16, 18, 21, 24, 26, 29},
            {2, 5, 8, 10, 13, 16, 19, 21, 24, 27, 29}, {2, 5, 8, 11, 13, 16, 19, 21, 24, 27, 0}};
        for (int calendar = 7; calendar <= 10; calendar++) {
            Edge.in(PART, "A year is long if the rest of y by 30 is", "each rest by " + calendar + ", also below 0");
            for (int turn : new int[] {-9990, -60, -30, 0, 30, 19950}) {
                for (int rest = 0; rest < 30; rest++) {
                    length(calendar, isAmong(rests[calendar - 7], rest) ? 355 : 354, turn + rest);
                }
            }
        }
        Edge.in(PART, "7, 8, 9, 10 ISLAMIC: 12 months of 30 and 29 days in turns, the 12th of 30 in a long year; FIRST(1) is "
            + "227015.");
        for (int calendar = 7; calendar <= 10; calendar++) {
            months(calendar, 1, 30, 29, 30, 29, 30, 29, 30, 29, 30, 29, 30, 29);
            months(calendar, 2, 30, 29, 30, 29, 30, 29, 30, 29, 30, 29, 30, 30);
            first(calendar, 1, 227015);
            first(calendar, 2, 227015 + 354);
            first(calendar, 3, 227015 + 354 + 355);
            first(calendar, 31, 227015 + 10631);
            first(calendar, 0, 227015 - (calendar == 10 ? 355 : 354));
        }
    }

    private static boolean isAmong(int[] row, int number) {
        for (int one : row) {
            if (one == number) {
                return true;
            }
        }
        return false;
    }

    private static boolean isLong(int year) {
        return Math.floorMod(7 * year + 1, 19) < 7;
    }

    private static long parts(int year) {
        return 5604 + 765433 * Math.floorDiv(235L * year - 234, 19L);
    }

    private static int rest(int year) {
        return (int) Math.floorMod(parts(year), 25920L);
    }

    private static long moonDay(int year) {
        return -1373427 + Math.floorDiv(parts(year), 25920L);
    }

    private static int weekday(long day) {
        return (int) Math.floorMod(day, 7L);
    }

    /** The delay by the letters' days alone. */
    private static long further(long day) {
        return weekday(day) == 0 || weekday(day) == 3 || weekday(day) == 5 ? day + 1 : day;
    }

    private static boolean isB(int year) {
        return !isLong(year) && weekday(moonDay(year)) == 2;
    }

    private static boolean isC(int year) {
        return isLong(year - 1) && weekday(moonDay(year)) == 1;
    }

    private static void hebrewDelays() {
        Edge.in(PART, "a year is long if the rest of 7 * y + 1 by 19 is less than 7");
        hebrewLong(1, 38);
        hebrewLong(19980, 19999);
        Edge.in(PART, "It has 12 months, a long one 13.", "the 12th and the 13th of both");
        for (int year : new int[] {5783, 5784, 5785, 5786, 5787}) {
            int y = year;
            Edge.is("the last month of " + y, isLong(y) ? 13 : 12, x -> x.monthAt(11, y, isLong(y) ? 12 : 11));
            Edge.refuses("a month more of " + y, Edge.NO_SUCH, x -> x.monthAt(11, y, isLong(y) ? 13 : 12));
        }
        Edge.in(PART, "(a) if R is 19440 or more, it is one day later", "the years with an R next to it");
        beside(19440, 0);
        Edge.in(PART, "if the year is not long, the day is a Tuesday, and R is 9924 or more, it is two days later",
            "the years with an R next to it");
        beside(9924, 1);
        Edge.in(PART, "if the year ahead is long, the day is a Monday, and R is 16789 or more, it is one day later",
            "the years with an R next to it");
        beside(16789, 2);
Edge.in(PART, "if the year is not long, the day is a Tuesday, and R is 9924 or more, it is two days later",
    "each place of the year among 19");
for (int place = 0; place < 19; place++) {
    delayed(place, 2, 9924);
}
Edge.in(PART, "if the year ahead is long, the day is a Monday, and R is 16789 or more, it is one day later",
    "each place of the year among 19");
for (int place = 0; place < 19; place++) {
    delayed(place, 1, 16789);
}
Edge.in(PART, "(d) If the day is then a Sunday, a Wednesday or a Friday, it is one day later still.",
            "no year begins so");
        for (int year = 5000; year < 5300; year++) {
            int y = year;
            Edge.is("the weekday of " + y, false, x -> weekday(x.newYear(11, y)) % 7 == 0
                || weekday(x.newYear(11, y)) == 3 || weekday(x.newYear(11, y)) == 5);
        }
    }

/** Years with this place among 19 whose mean moon is on the weekday, with an R from the limit to 19440. */
private static void delayed(int place, int weekday, int limit) {
    int seen = 0;
    for (int year = 19 + place; year <= 19999 && seen < 4; year += 19) {
        int y = year;
        if (weekday(moonDay(y)) == weekday && rest(y) >= limit && rest(y) < 19440) {
            long late = weekday == 2 ? (isLong(y) ? 0 : 2) : isLong(y - 1) ? 1 : 0;
            Edge.is("the first day of " + y, further(moonDay(y) + late), x -> x.newYear(11, y));
            seen++;
        }
    }
    Check.holds("there are such years", seen > 0);
}

private static void hebrewLong(int from, int to) {
        for (int year = from; year <= to; year++) {
            int y = year;
            Edge.is("the month 13 of " + y, isLong(y), x -> x.isLawful(11, y, 13, 1));
            Edge.is("the month 12 of " + y, true, x -> x.isLawful(11, y, 12, 1));
        }
    }

    /** The first days of the years whose R is next to a limit, on both of its sides. */
    private static void beside(int limit, int delay) {
        int below = 0;
        int above = 0;
        int atLimit = 0;
        for (int year = 1; year <= 19999; year++) {
            int y = year;
            int more = rest(year) - limit;
            boolean isOfThis = delay == 0 || delay == 1 && isB(year) && rest(year) < 19440
                || delay == 2 && isC(year) && !isB(year) && rest(year) < 19440;
            if (isOfThis && more >= -60 && more <= 60) {
                below += more < 0 ? 1 : 0;
                above += more >= 0 ? 1 : 0;
                atLimit += more == 0 || more == -1 ? 1 : 0;
                long late = more < 0 ? otherwise(year, delay) : delay == 1 ? 2 : 1;
                Edge.is("the first day of " + y + " with R " + rest(y), further(moonDay(y) + late), x -> x.newYear(11, y));
            }
        }
        Check.holds("there are such years, " + below + " and " + above + ", at the limit " + atLimit, below > 0 && above > 0);
    }

    /** What the delays (b) and (c) add where (a) does not hold. */
    private static long otherwise(int year, int delay) {
        if (delay != 0) {
            return 0;
        }
        return isB(year) && rest(year) >= 9924 ? 2 : isC(year) && rest(year) >= 16789 ? 1 : 0;
    }

    private static void hebrewMonths() {
        String sentence = "If the year, from FIRST(y) to FIRST(y + 1), is a day longer than this, the second month has a day "
            + "more; if it is a day shorter, the third one has a day less.";
        int[] days = {353, 354, 355, 383, 384, 385};
        for (int length : days) {
            Edge.in(PART, sentence, "a year of " + length + " days");
            int seen = 0;
            for (int year = 5700; year < 5800 && seen < 5; year++) {
                if (new Manydays().yearLength(11, year) == length) {
                    int second = length % 10 == 5 ? 30 : 29;
                    int third = length % 10 == 3 ? 29 : 30;
                    if (length < 360) {
                        months(11, year, 30, second, third, 29, 30, 29, 30, 29, 30, 29, 30, 29);
                    } else {
                        months(11, year, 30, second, third, 29, 30, 30, 29, 30, 29, 30, 29, 30, 29);
                    }
                    seen++;
                }
            }
            Check.holds("there are such years", seen > 0);
        }
    }

    private static void hebrewNotBegun() {
        Edge.in(PART, "Years below 1 have not begun (refused by IllegalStateException, whatever the month).");
        for (int year : new int[] {-9999, -1, 0}) {
            int y = year;
            Edge.refuses("newYear " + y, Edge.STATE, x -> x.newYear(11, y));
            Edge.refuses("yearLength " + y, Edge.STATE, x -> x.yearLength(11, y));
            Edge.refuses("meanYear " + y, Edge.STATE, x -> x.meanYear(11, y, 1));
            for (int month : new int[] {Integer.MIN_VALUE, -1, 0, 1, 13, 14, Integer.MAX_VALUE}) {
                Edge.refuses("monthAt " + y + " " + month, Edge.STATE, x -> x.monthAt(11, y, month));
                Edge.refuses("monthLength " + y + " " + month, Edge.STATE, x -> x.monthLength(11, y, month));
                Edge.refuses("nth " + y + " " + month, Edge.STATE, x -> x.nth(11, y, month, 1, 1));
                Edge.refuses("table " + y + " " + month, Edge.STATE, x -> x.table(11, 0, y, month));
                Edge.is("isLawful " + y + " " + month, false, x -> x.isLawful(11, y, month, 1));
            }
        }
        Edge.is("the year 1 has", -1373427L, x -> x.newYear(11, 1));
    }

    private static void persian() {
        Edge.in(PART, "12 PERSIAN: 6 months of 31 days, 5 of 30, a 12th of 29, or 30 in a long year");
        months(12, 2, 31, 31, 31, 31, 31, 31, 30, 30, 30, 30, 30, 29);
        months(12, 1, 31, 31, 31, 31, 31, 31, 30, 30, 30, 30, 30, 30);
        Edge.in(PART, "one for which the rest of y by 33 is one of 1 5 9 13 17 22 26 30", "each rest, also below 0");
        for (int turn : new int[] {-9966, -33, 0, 33, 19965}) {
            for (int rest = 0; rest < 33; rest++) {
                length(12, isAmong(new int[] {1, 5, 9, 13, 17, 22, 26, 30}, rest) ? 366 : 365, turn + rest);
            }
        }
        Edge.in(PART, "FIRST(1) is 226896.");
        first(12, 1, 226896);
        first(12, 2, 226896 + 366);
        first(12, 0, 226896 - 365);
        first(12, 34, 226896 + 12053);
    }

    private static void bahai() {
        Edge.in(PART, "13 BAHAI: FIRST(y) is March 21 of the year y + 1843 of 0.");
        for (int year : new int[] {-9999, -1843, -1, 0, 1, 56, 57, 257, 8156}) {
            first(13, year, Oracle.gregorian(year + 1843, 3, 21));
        }
        Edge.in(PART, "18 months of 19 days, a 19th of as many days as are left, and a 20th of 19.",
            "4 days, and 5 where February is long");
        months(13, 1, 19, 19, 19, 19, 19, 19, 19, 19, 19, 19, 19, 19, 19, 19, 19, 19, 19, 19, 4, 19);
        months(13, 4, 19, 19, 19, 19, 19, 19, 19, 19, 19, 19, 19, 19, 19, 19, 19, 19, 19, 19, 5, 19);
        for (int year = 50; year <= 60; year++) {
            month(13, year, 19, Oracle.isGregorianLong(year + 1844) ? 5 : 4);
            length(13, Oracle.isGregorianLong(year + 1844) ? 366 : 365, year);
        }
        month(13, 1900 - 1844, 19, 4);
        month(13, 2000 - 1844, 19, 5);
        month(13, -1844, 19, 5);
        month(13, -1944, 19, 4);
    }

    private static void indian() {
        Edge.in(PART, "14 INDIAN: FIRST(y) is March 22 of the year y + 78 of 0, or March 21, if that year is long.");
        for (int year : new int[] {-9999, -478, -178, -78, -2, -1, 0, 1, 2, 22, 122, 1822, 1922, 2022, 7000}) {
            first(14, year, Oracle.gregorian(year + 78, 3, Oracle.isGregorianLong(year + 78) ? 21 : 22));
        }
        Edge.in(PART, "A month of 30 days, or 31 if it is long, 5 of 31, and 6 of 30.");
        months(14, 1921, 30, 31, 31, 31, 31, 31, 30, 30, 30, 30, 30, 30);
        months(14, 1922, 31, 31, 31, 31, 31, 31, 30, 30, 30, 30, 30, 30);
        months(14, 1822, 30, 31, 31, 31, 31, 31, 30, 30, 30, 30, 30, 30);
        length(14, 366, 1922, 2, 6, -78, -478);
        length(14, 365, 1921, 1923, 1822, 22, -178);
    }

    private static void french() {
        Edge.in(PART, "or 6 if y can be divided by 4, but not by 100 unless by 400, and not by 4000");
        length(15, 366, 4, 8, 96, 104, 400, 800, 2000, 3600, 3996, 4004, 4400, 7600, 8400, -4, -400, -3600, -4400, 19996);
        length(15, 365, 1, 2, 3, 100, 200, 300, 3900, 4000, 8000, 12000, 16000, 0, -4000, -8000, -100, -1, 19999, -9999);
        Edge.in(PART, "15 FRENCH: 12 months of 30 days and a 13th of 5");
        months(15, 3, 30, 30, 30, 30, 30, 30, 30, 30, 30, 30, 30, 30, 5);
        months(15, 4, 30, 30, 30, 30, 30, 30, 30, 30, 30, 30, 30, 30, 6);
        Edge.in(PART, "FIRST(1) is 654415.");
        first(15, 1, 654415);
        first(15, 0, 654415 - 365);
        first(15, 5, 654415 + 4 * 365 + 1);
        first(15, 4001, 654415 + 1460969);
    }

    private static void weeks() {
        Edge.in(PART, "a month is a week, from Monday, the day 1, to Sunday, the day 7");
        for (int i = 1; i <= 14; i++) {
            int day = i;
            Edge.is("the day of " + day, (day - 1) % 7 + 1, x -> x.part(16, day, 2));
            Edge.is("the week of " + day, (day - 1) / 7 + 1, x -> x.part(16, day, 1));
        }
        for (int week : new int[] {1, 26, 52}) {
            month(16, 2000, week, 7);
        }
        Edge.in(PART, "the first week of y is that with January 4 of y of 0", "on each weekday");
        for (int year = 1996; year <= 2024; year++) {
            long fourth = Oracle.gregorian(year, 1, 4);
            first(16, year, fourth - Math.floorMod(fourth - 1, 7L));
        }
        Edge.in(PART, "the last one is that ahead of the first one of y + 1", "52 and 53 weeks");
        for (int year = 1996; year <= 2024; year++) {
            int y = year;
            boolean isLong = Math.floorMod(Oracle.gregorian(y, 1, 1), 7L) == 4 || Math.floorMod(Oracle.gregorian(y, 12, 31), 7L) == 4;
            int weeks = isLong ? 53 : 52;
            length(16, 7 * weeks, y);
            Edge.is("the last week of " + y, weeks, x -> x.monthAt(16, y, weeks - 1));
            Edge.refuses("a week more of " + y, Edge.NO_SUCH, x -> x.monthAt(16, y, weeks));
            Edge.refuses("the length of a week more of " + y, Edge.ARGUMENT, x -> x.monthLength(16, y, weeks + 1));
        }
        length(16, 371, 2004, 2009, 2015, 2020);
    }

    private static long count(long day) {
        return Math.floorDiv((4 * (day + 1132959) + 1) * 1728, 210389L);
    }

    private static void sun() {
        Edge.in(PART, "The year is the quotient of M by 12, rounded down, the month the rest, and 1.", "beside each month's end");
        for (int year : new int[] {1000, 2000, 5000}) {
            for (int month = 1; month <= 12; month++) {
                int m = month;
                int y = year;
                long first = Oracle.of(17).dayOf(year, month, 1);
                for (long day = first - 1; day <= first; day++) {
                    long d = day;
                    Edge.is("the year of " + d, Math.floorDiv(count(d), 12L), x -> x.part(17, d, 0));
                    Edge.is("the month of " + d, Math.floorMod(count(d), 12L) + 1, x -> x.part(17, d, 1));
                }
                Check.holds("another count", count(first - 1) + 1 == count(first));
                Edge.is("the first day of the month " + m, 1, x -> x.part(17, first, 2));
                int length = (int) (Oracle.of(17).starts[Oracle.of(17).at(first) + 1] - first);
                Edge.is("its length", length, x -> x.monthLength(17, y, m));
                Edge.refuses("a day more", Edge.ARGUMENT, x -> x.dayOf(17, y, m, length + 1));
            }
        }
        Edge.in(PART, "the month count M of the day d is the quotient of (4 * (d + 1132959) + 1) * 1728 by 210389, rounded down",
            "the years below 0 and 0, and the last one");
        for (int year : new int[] {-9999, -9998, -2, -1, 0, 1, 19998, 19999}) {
            int y = year;
            long first = new Manydays().newYear(17, y);
            Check.is("the count of the first day of " + y, 12L * y, () -> count(first));
            Check.is("the count of the day ahead", 12L * y - 1, () -> count(first - 1));
        }
        first(17, 0, -1132959);
        Edge.in(PART, "days with one count are one month", "the last day of a month and the first one of the next");
        for (long day : new long[] {Edge.FIRST_DAY, 0, 730120, Edge.LAST_DAY - 40}) {
            long last = day;
            while (count(last + 1) == count(day)) {
                last++;
            }
            long end = last;
            Edge.is("one month up to " + end, true, x -> x.part(17, day, 1) == x.part(17, end, 1));
            Edge.is("another one behind " + end, false, x -> x.part(17, day, 1) == x.part(17, end + 1, 1));
            Edge.is("it begins with 1", 1, x -> x.part(17, end + 1, 2));
        }
    }

    private static void moons() {
        Edge.in(PART, "A moon in which the term j falls is the month 2 * m - 1 of the year y",
            "a term on the first and on the last day of a moon");
        int atFirst = 0;
        int atLast = 0;
        for (long term = 12 * 1000; term < 12 * 1400; term++) {
            long day = Math.floorDiv(146097 * term, 4800L);
            long moon = Math.floorDiv(day * 25920 + 25919, 765433L);
            long first = Math.floorDiv(765433 * moon, 25920L);
            long next = Math.floorDiv(765433 * (moon + 1), 25920L);
            if (day == first || day == next - 1) {
                long year = Math.floorDiv(term, 12L);
                long month = 2 * (Math.floorMod(term, 12L) + 1) - 1;
                Edge.is("the year of " + day, year, x -> x.part(18, day, 0));
                Edge.is("the month of " + day, month, x -> x.part(18, day, 1));
                Edge.is("the day of " + day, day - first + 1, x -> x.part(18, day, 2));
                atFirst += day == first ? 1 : 0;
                atLast += day == next - 1 ? 1 : 0;
            }
        }
        Check.holds("there are such terms", atFirst > 5 && atLast > 5);
        Edge.in(PART, "A moon without a term is the month with the next higher number than that of the moon ahead of it, of the "
            + "same year.", "also behind the last term of a year");
        Oracle oracle = Oracle.of(18);
        int seen = 0;
        int behindLast = 0;
        for (int at = oracle.at(300000); at < oracle.at(400000); at++) {
            if (oracle.numbers[at] % 2 == 0) {
                long start = oracle.starts[at];
                int number = oracle.numbers[at];
                Edge.is("the month of " + start, number, x -> x.part(18, start, 1));
                Edge.is("the month ahead", number - 1, x -> x.part(18, start - 1, 1));
                Edge.is("the years are one", true, x -> x.part(18, start, 0) == x.part(18, start - 1, 0));
                seen++;
                behindLast += number == 24 ? 1 : 0;
            }
        }
        Check.holds("there are such moons: " + seen + ", behind the last term " + behindLast, seen > 50);
        Edge.in(PART, "No moon has two terms, and no two moons one behind the other have none.", "12 or 13 moons a year");
        for (int year : new int[] {-9999, -1, 0, 1, 2000, 2001, 2002, 2003, 2004, 2005, 19999}) {
            int y = year;
            int count = oracle.countOf(y);
            Check.holds("the moons of " + y, count == 12 || count == 13);
            Edge.takes("the last moon of " + y, x -> x.monthAt(18, y, count - 1));
            Edge.refuses("a moon more of " + y, Edge.NO_SUCH, x -> x.monthAt(18, y, count));
            for (int month = 1; month <= 23; month += 2) {
                int m = month;
                Edge.takes("the month " + m + " of " + y, x -> x.monthLength(18, y, m));
            }
        }
        Edge.in(PART, "the term j falls on the day that is the quotient of 146097 * j by 4800, rounded down",
            "the moon of the first term, of the year's first month");
        for (int year : new int[] {-9999, -1, 0, 1, 2000, 19999}) {
            long term = Math.floorDiv(146097L * 12 * year, 4800L);
            long moon = Math.floorDiv(term * 25920 + 25919, 765433L);
            first(18, year, Math.floorDiv(765433 * moon, 25920L));
        }
        Edge.in(PART, "the moon k (any whole number) begins on the day that is the quotient of 765433 * k by 25920, rounded down",
            "first days, last days");
        for (long k = -3; k < 20; k++) {
            long first = Math.floorDiv(765433 * k, 25920L);
            long next = Math.floorDiv(765433 * (k + 1), 25920L);
            Edge.is("the moon " + k, 1, x -> x.part(18, first, 2));
            Edge.is("the last day of the moon " + k, (int) (next - first), x -> x.part(18, next - 1, 2));
        }
    }
}
