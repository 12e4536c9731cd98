/** The boundary cases of the section 2: each calendar's long years, its first year, and its months (11, 17 and 18 elsewhere). */
final class EdgeCalendarsTest {
    private static final String PART = "2. CALENDARS";

    private EdgeCalendarsTest() {
    }

    static void run() {
        years();
        zero();
        numbers();
        lawful();
        civil();
        mixed();
        thirties();
        islamic();
        persian();
        bahai();
        indian();
        french();
        weeks();
    }

    private static void years() {
        Edge.in(PART, "A calendar has years (from -9999 to 19999)");
        for (int calendar = 0; calendar <= 18; calendar++) {
            int c = calendar;
            int lowest = c == 11 ? 1 : -9999;
            for (int year : new int[] {lowest, lowest + 1, 19998, 19999}) {
                Edge.takes("the year " + year + " of " + c, x -> x.newYear(c, year));
                Edge.takes("its length", x -> x.yearLength(c, year));
                Edge.takes("its first month", x -> x.monthAt(c, year, 0));
                Edge.takes("that one's length", x -> x.monthLength(c, year, 1));
                Edge.is("its first date", true, x -> x.isLawful(c, year, 1, 1));
            }
            for (int year : new int[] {-10000, 20000}) {
                Edge.refuses("the year " + year + " of " + c, Edge.ARGUMENT, x -> x.newYear(c, year));
                Edge.refuses("its length", Edge.ARGUMENT, x -> x.yearLength(c, year));
                Edge.refuses("its first month", Edge.ARGUMENT, x -> x.monthAt(c, year, 0));
                Edge.refuses("that one's length", Edge.ARGUMENT, x -> x.monthLength(c, year, 1));
                Edge.is("its first date", false, x -> x.isLawful(c, year, 1, 1));
            }
        }
    }

    private static void zero() {
        Edge.in(PART, "The years of all calendars but 1 and 2 have a year 0 ahead of the year 1");
        for (int calendar = 0; calendar <= 18; calendar++) {
            int c = calendar;
            if (c != 1 && c != 2 && c != 11) {
                Edge.is("the year 0 of " + c + " ends with the year 1", 0L,
                    x -> x.newYear(c, 0) + x.yearLength(c, 0) - x.newYear(c, 1));
                Edge.is("the year -1 of " + c + " ends with the year 0", 0L,
                    x -> x.newYear(c, -1) + x.yearLength(c, -1) - x.newYear(c, 0));
            }
        }
        Edge.in(PART, "in these two the year -1 is ahead of the year 1");
        for (int calendar = 1; calendar <= 2; calendar++) {
            int c = calendar;
            EdgeYears.first(c, 1, -1);
            EdgeYears.first(c, -1, -367);
            EdgeYears.first(c, -2, -732);
            Edge.refuses("the year 0 of " + c, Edge.ARGUMENT, x -> x.newYear(c, 0));
            Edge.is("the year of the day ahead", -1, x -> x.part(c, -2, 0));
            Edge.is("the year of the first day", 1, x -> x.part(c, -1, 0));
        }
    }

    private static void numbers() {
        Edge.in(PART, "years have months, one behind the other, with numbers that rise (not always each number)");
        for (int calendar = 0; calendar <= 18; calendar++) {
            int c = calendar;
            for (int year = 2500; year < 2510; year++) {
                int y = year;
                Edge.is("the months of " + y + " of " + c, true, x -> isRising(x, c, y));
            }
        }
        Edge.in(PART, "months have days with numbers that rise from 1 on");
        for (int calendar = 0; calendar <= 18; calendar++) {
            int c = calendar;
            long start = new Manydays().newYear(c, 2500);
            for (int i = 1; i <= 5; i++) {
                int date = i;
                Edge.is("the day " + date + " of " + c, date, x -> x.part(c, start + date - 1, 2));
            }
        }
    }

    private static boolean isRising(Manydays x, int calendar, int year) {
        int months = Oracle.of(calendar).countOf(year);
        for (int i = 1; i < months; i++) {
            if (x.monthAt(calendar, year, i) <= x.monthAt(calendar, year, i - 1)) {
                return false;
            }
        }
        return x.monthAt(calendar, year, 0) == 1;
    }

    private static void lawful() {
        String sentence = "A date is lawful if its year is from -9999 to 19999 (not 0 in 1 and 2; in 11 at least 1), it has the "
            + "month, and the month has the day.";
        Edge.in(PART, sentence, "the year");
        for (int calendar = 0; calendar <= 18; calendar++) {
            int c = calendar;
            for (int year : new int[] {Integer.MIN_VALUE, -10000, -9999, -1, 0, 1, 19999, 20000, Integer.MAX_VALUE}) {
                boolean isYear = year >= -9999 && year <= 19999 && (year != 0 || c != 1 && c != 2) && (year >= 1 || c != 11);
                Edge.is("the year " + year + " of " + c, isYear, x -> x.isLawful(c, year, 1, 1));
            }
        }
        Edge.in(PART, sentence, "the month");
        for (int calendar = 0; calendar <= 18; calendar++) {
            int c = calendar;
            Oracle oracle = Oracle.of(c);
            for (int month = -1; month <= 55; month++) {
                int m = month;
                Edge.is("the month " + m + " of " + c, oracle.dayOf(2500, m, 1) != Oracle.NO_DAY, x -> x.isLawful(c, 2500, m, 1));
            }
        }
        Edge.in(PART, sentence, "the day");
        for (int calendar = 0; calendar <= 18; calendar++) {
            int c = calendar;
            Oracle oracle = Oracle.of(c);
            for (int date = -1; date <= 35; date++) {
                int d = date;
                for (int month : new int[] {1, 12}) {
                    Edge.is("the day " + d + " of the month " + month + " of " + c,
                        oracle.dayOf(2500, month, d) != Oracle.NO_DAY, x -> x.isLawful(c, 2500, month, d));
                }
            }
        }
        Edge.in(PART, "an IndexOutOfBoundsException is thrown for another one", "each call that takes a calendar");
        for (int calendar : new int[] {Integer.MIN_VALUE, -1, 19, Integer.MAX_VALUE}) {
            int c = calendar;
            Edge.Act[] calls = {x -> x.dayOf(c, 1, 1, 1), x -> x.isLawful(c, 1, 1, 1), x -> x.part(c, 1, 0),
                x -> x.newYear(c, 1), x -> x.yearLength(c, 1), x -> x.monthAt(c, 1, 0), x -> x.monthLength(c, 1, 1),
                x -> x.later(c, 1, 0, 0), x -> x.age(c, 1, 1), x -> x.ageMonths(c, 1, 1), x -> x.remembrance(c, 1, 1),
                x -> x.nth(c, 1, 1, 1, 1), x -> x.drift(c, true), x -> x.far(c), x -> x.write(c, 1),
                x -> x.table(c, 0, 1, 1), x -> x.table(0, c, 1, 1), x -> x.reignAt(100, c, 0),
                x -> x.gather(c, 1, 1, 1, 1), x -> x.meanYear(c, 1, 1), x -> x.passed(c, 1)};
            for (int i = 0; i < calls.length; i++) {
                Edge.refuses("call " + i + " with " + c, Edge.INDEX, calls[i]);
            }
        }
    }

    private static void civil() {
        Edge.in(PART, "a year is long if it can be divided by 4, but not by 100 unless by 400");
        EdgeYears.length(0, 366, 4, 8, 96, 104, 400, 1600, 2000, 2024, 19996, 0, -4, -400, -2000, -9996, -9600);
        EdgeYears.length(0, 365, 1, 2, 3, 5, 99, 100, 101, 200, 300, 1700, 1900, 2100, 2023, 19900, 19999, -1, -2, -3, -100, -200, -9999,
            -9900);
        Edge.in(PART, "The 12 months have 31, 28 (29 in a long year), 31, 30, 31, 30, 31, 31, 30, 31, 30, 31 days.");
        EdgeYears.months(0, 2023, 31, 28, 31, 30, 31, 30, 31, 31, 30, 31, 30, 31);
        EdgeYears.months(0, 2024, 31, 29, 31, 30, 31, 30, 31, 31, 30, 31, 30, 31);
        Edge.in(PART, "1 JULIAN: long if z can be divided by 4; months as in 0; FIRST(1) is -1.");
        EdgeYears.length(1, 366, 4, 100, 200, 1900, 2000, -1, -5, -101, -401, -9997);
        EdgeYears.length(1, 365, 1, 2, 3, 99, 1899, 19999, -2, -3, -4, -100, -400, -9999);
        EdgeYears.first(1, 1, -1);
        EdgeYears.first(1, 2, 364);
        EdgeYears.months(1, 1900, 31, 29, 31, 30, 31, 30, 31, 31, 30, 31, 30, 31);
        EdgeYears.months(1, 1899, 31, 28, 31, 30, 31, 30, 31, 31, 30, 31, 30, 31);
        Edge.in(PART, "z stands for y, or, if y is below 0, for y + 1");
        EdgeYears.length(1, 366, -1, 4, -5);
        EdgeYears.length(1, 365, 1, -4, 3);
        EdgeYears.length(2, 366, -1, 4, -5);
        EdgeYears.length(2, 365, 1, -4, 3);
    }

    private static void mixed() {
        Edge.in(PART, "each day ahead of the change has its date by 1, each other one its date by 0.",
            "the days beside the change");
        for (long change : new long[] {500000, 500001, 577736, 620000, 739999, 740000}) {
            for (long day = change - 3; day <= change + 3; day++) {
                int by = day < change ? 1 : 0;
                long d = day;
                for (int what = 0; what < 3; what++) {
                    int w = what;
                    Manydays x = new Manydays();
                    x.setChange(change);
                    Check.is("part " + w + " of " + d + " with the change " + change, new Manydays().part(by, d, w),
                        () -> x.part(2, d, w));
                }
            }
        }
        Edge.in(PART, "The change is a day from 500000 to 740000, 577736 at first.");
        Edge.is("at first", 577736L, x -> x.setChange(577736));
        Edge.refuses("below", Edge.ARGUMENT, x -> x.setChange(499999));
        Edge.takes("the lowest", x -> x.setChange(500000));
        Edge.takes("the highest", x -> x.setChange(740000));
        Edge.refuses("above", Edge.ARGUMENT, x -> x.setChange(740001));
        Edge.in(PART, "Dates that no day has are not lawful");
        for (int date = 1; date <= 32; date++) {
            int d = date;
            Edge.is("October " + d, d <= 4 || d >= 15 && d <= 31, x -> x.isLawful(2, 1582, 10, d));
        }
        Edge.is("February 29 by 1 alone, behind the change", false, x -> x.isLawful(2, 1700, 2, 29));
        Edge.is("February 29 by 1 alone, ahead of the change", true, x -> x.isLawful(2, 1500, 2, 29));
        Edge.is("February 29 by 1 alone, on the day ahead of the change", true,
            Edge.withChange(Oracle.gregorian(1700, 3, 12), x -> x.isLawful(2, 1700, 2, 29)));
        Edge.is("February 29 by 1 alone, on the change", false,
            Edge.withChange(Oracle.gregorian(1700, 3, 11), x -> x.isLawful(2, 1700, 2, 29)));
        Edge.in(PART, "a month has just the lawful ones of its days");
        EdgeYears.month(2, 1582, 9, 30);
        EdgeYears.month(2, 1582, 10, 21);
        EdgeYears.month(2, 1582, 11, 30);
        EdgeYears.length(2, 355, 1582);
        EdgeYears.length(2, 365, 1581, 1583);
        for (long change = Oracle.gregorian(1599, 12, 30); change <= Oracle.gregorian(1600, 1, 13); change++) {
            Oracle oracle = Oracle.mixed(change);
            for (int i = oracle.firstOf(1599) + 10; i < oracle.firstOf(1600) + 2; i++) {
                int at = i;
                Manydays x = new Manydays();
                x.setChange(change);
                Check.is("the month " + oracle.numbers[at] + " with the change " + change, oracle.length(at),
                    () -> x.monthLength(2, oracle.years[at], oracle.numbers[at]));
            }
        }
    }

    private static void thirties() {
        int[] five = {30, 30, 30, 30, 30, 30, 30, 30, 30, 30, 30, 30, 5};
        int[] six = {30, 30, 30, 30, 30, 30, 30, 30, 30, 30, 30, 30, 6};
        Edge.in(PART, "3 COPTIC: 12 months of 30 days and a 13th of 5, or 6 if the rest of y by 4 is 3; FIRST(1) is 103605.");
        EdgeYears.months(3, 2, five);
        EdgeYears.months(3, 3, six);
        EdgeYears.months(3, 4, five);
        EdgeYears.length(3, 366, 3, 7, 99, 103, 19999, -1, -5, -9997);
        EdgeYears.length(3, 365, 0, 1, 2, 4, 100, 400, 19998, -2, -3, -4, -9999);
        EdgeYears.first(3, 1, 103605);
        EdgeYears.first(3, 0, 103605 - 365);
        EdgeYears.first(3, 4, 103605 + 3 * 365 + 1);
        Edge.in(PART, "4 ETHIOPIC: as 3, but FIRST(1) is 2796.");
        EdgeYears.months(4, 2, five);
        EdgeYears.months(4, 3, six);
        EdgeYears.length(4, 366, 3, -1);
        EdgeYears.length(4, 365, 0, 1, 2, 4);
        EdgeYears.first(4, 1, 2796);
        EdgeYears.first(4, 4, 2796 + 3 * 365 + 1);
        Edge.in(PART, "5 EGYPTIAN: 12 months of 30 days and a 13th of 5; FIRST(1) is -272787.");
        EdgeYears.months(5, 3, five);
        EdgeYears.length(5, 365, -9999, -4, -1, 0, 1, 2, 3, 4, 400, 19999);
        EdgeYears.first(5, 1, -272787);
        EdgeYears.first(5, 2, -272787 + 365);
        EdgeYears.first(5, 0, -272787 - 365);
        Edge.in(PART, "6 ARMENIAN: as 5, but FIRST(1) is 201443.");
        EdgeYears.months(6, 3, five);
        EdgeYears.length(6, 365, -9999, -4, -1, 0, 1, 2, 3, 4, 400, 19999);
        EdgeYears.first(6, 1, 201443);
        EdgeYears.first(6, 2, 201443 + 365);
    }

    private static void islamic() {
        int[][] rests = {{2, 5, 7, 10, 13, 15, 18, 21, 24, 26, 29}, {2, 5, 7, 10, 13, 16, 18, 21, 24, 26, 29},
            {2, 5, 8, 10, 13, 16, 19, 21, 24, 27, 29}, {2, 5, 8, 11, 13, 16, 19, 21, 24, 27, 0}};
        for (int calendar = 7; calendar <= 10; calendar++) {
            Edge.in(PART, "A year is long if the rest of y by 30 is", "each rest by " + calendar + ", also below 0");
            for (int turn : new int[] {-9990, -60, -30, 0, 30, 19950}) {
                for (int rest = 0; rest < 30; rest++) {
                    EdgeYears.length(calendar, EdgeYears.isAmong(rests[calendar - 7], rest) ? 355 : 354, turn + rest);
                }
            }
        }
        Edge.in(PART, "7, 8, 9, 10 ISLAMIC: 12 months of 30 and 29 days in turns, the 12th of 30 in a long year; FIRST(1) is "
            + "227015.");
        for (int calendar = 7; calendar <= 10; calendar++) {
            EdgeYears.months(calendar, 1, 30, 29, 30, 29, 30, 29, 30, 29, 30, 29, 30, 29);
            EdgeYears.months(calendar, 2, 30, 29, 30, 29, 30, 29, 30, 29, 30, 29, 30, 30);
            EdgeYears.first(calendar, 1, 227015);
            EdgeYears.first(calendar, 2, 227015 + 354);
            EdgeYears.first(calendar, 3, 227015 + 354 + 355);
            EdgeYears.first(calendar, 31, 227015 + 10631);
            EdgeYears.first(calendar, 0, 227015 - (calendar == 10 ? 355 : 354));
        }
    }

    private static void persian() {
        Edge.in(PART, "12 PERSIAN: 6 months of 31 days, 5 of 30, a 12th of 29, or 30 in a long year");
        EdgeYears.months(12, 2, 31, 31, 31, 31, 31, 31, 30, 30, 30, 30, 30, 29);
        EdgeYears.months(12, 1, 31, 31, 31, 31, 31, 31, 30, 30, 30, 30, 30, 30);
        Edge.in(PART, "one for which the rest of y by 33 is one of 1 5 9 13 17 22 26 30", "each rest, also below 0");
        for (int turn : new int[] {-9966, -33, 0, 33, 19965}) {
            for (int rest = 0; rest < 33; rest++) {
                EdgeYears.length(12, EdgeYears.isAmong(new int[] {1, 5, 9, 13, 17, 22, 26, 30}, rest) ? 366 : 365, turn + rest);
            }
        }
        Edge.in(PART, "FIRST(1) is 226896.");
        EdgeYears.first(12, 1, 226896);
        EdgeYears.first(12, 2, 226896 + 366);
        EdgeYears.first(12, 0, 226896 - 365);
        EdgeYears.first(12, 34, 226896 + 12053);
    }

    private static void bahai() {
        Edge.in(PART, "13 BAHAI: FIRST(y) is March 21 of the year y + 1843 of 0.");
        for (int year : new int[] {-9999, -1843, -1, 0, 1, 56, 57, 257, 8156}) {
            EdgeYears.first(13, year, Oracle.gregorian(year + 1843, 3, 21));
        }
        Edge.in(PART, "18 months of 19 days, a 19th of as many days as are left, and a 20th of 19.",
            "4 days, and 5 where February is long");
        EdgeYears.months(13, 1, 19, 19, 19, 19, 19, 19, 19, 19, 19, 19, 19, 19, 19, 19, 19, 19, 19, 19, 4, 19);
        EdgeYears.months(13, 4, 19, 19, 19, 19, 19, 19, 19, 19, 19, 19, 19, 19, 19, 19, 19, 19, 19, 19, 5, 19);
        for (int year = 50; year <= 60; year++) {
            EdgeYears.month(13, year, 19, Oracle.isGregorianLong(year + 1844) ? 5 : 4);
            EdgeYears.length(13, Oracle.isGregorianLong(year + 1844) ? 366 : 365, year);
        }
        EdgeYears.month(13, 1900 - 1844, 19, 4);
        EdgeYears.month(13, 2000 - 1844, 19, 5);
        EdgeYears.month(13, -1844, 19, 5);
        EdgeYears.month(13, -1944, 19, 4);
    }

    private static void indian() {
        Edge.in(PART, "14 INDIAN: FIRST(y) is March 22 of the year y + 78 of 0, or March 21, if that year is long.");
        for (int year : new int[] {-9999, -478, -178, -78, -2, -1, 0, 1, 2, 22, 122, 1822, 1922, 2022, 7000}) {
            EdgeYears.first(14, year, Oracle.gregorian(year + 78, 3, Oracle.isGregorianLong(year + 78) ? 21 : 22));
        }
        Edge.in(PART, "A month of 30 days, or 31 if it is long, 5 of 31, and 6 of 30.");
        EdgeYears.months(14, 1921, 30, 31, 31, 31, 31, 31, 30, 30, 30, 30, 30, 30);
        EdgeYears.months(14, 1922, 31, 31, 31, 31, 31, 31, 30, 30, 30, 30, 30, 30);
        EdgeYears.months(14, 1822, 30, 31, 31, 31, 31, 31, 30, 30, 30, 30, 30, 30);
        EdgeYears.length(14, 366, 1922, 2, 6, -78, -478);
        EdgeYears.length(14, 365, 1921, 1923, 1822, 22, -178);
    }

    private static void french() {
        Edge.in(PART, "or 6 if y can be divided by 4, but not by 100 unless by 400, and not by 4000");
        EdgeYears.length(15, 366, 4, 8, 96, 104, 400, 800, 2000, 3600, 3996, 4004, 4400, 7600, 8400, -4, -400, -3600, -4400, 19996);
        EdgeYears.length(15, 365, 1, 2, 3, 100, 200, 300, 3900, 4000, 8000, 12000, 16000, 0, -4000, -8000, -100, -1, 19999, -9999);
        Edge.in(PART, "15 FRENCH: 12 months of 30 days and a 13th of 5");
        EdgeYears.months(15, 3, 30, 30, 30, 30, 30, 30, 30, 30, 30, 30, 30, 30, 5);
        EdgeYears.months(15, 4, 30, 30, 30, 30, 30, 30, 30, 30, 30, 30, 30, 30, 6);
        Edge.in(PART, "FIRST(1) is 654415.");
        EdgeYears.first(15, 1, 654415);
        EdgeYears.first(15, 0, 654415 - 365);
        EdgeYears.first(15, 5, 654415 + 4 * 365 + 1);
        EdgeYears.first(15, 4001, 654415 + 1460969);
    }

    private static void weeks() {
        Edge.in(PART, "a month is a week, from Monday, the day 1, to Sunday, the day 7");
        for (int i = 1; i <= 14; i++) {
            int day = i;
            Edge.is("the day of " + day, (day - 1) % 7 + 1, x -> x.part(16, day, 2));
            Edge.is("the week of " + day, (day - 1) / 7 + 1, x -> x.part(16, day, 1));
        }
        for (int week : new int[] {1, 26, 52}) {
            EdgeYears.month(16, 2000, week, 7);
        }
        Edge.in(PART, "the first week of y is that with January 4 of y of 0", "on each weekday");
        for (int year = 1996; year <= 2024; year++) {
            long fourth = Oracle.gregorian(year, 1, 4);
            EdgeYears.first(16, year, fourth - Math.floorMod(fourth - 1, 7L));
        }
        Edge.in(PART, "the last one is that ahead of the first one of y + 1", "52 and 53 weeks");
        for (int year = 1996; year <= 2024; year++) {
            int y = year;
            boolean isLong = Math.floorMod(Oracle.gregorian(y, 1, 1), 7L) == 4 || Math.floorMod(Oracle.gregorian(y, 12, 31), 7L) == 4;
            int weeks = isLong ? 53 : 52;
            EdgeYears.length(16, 7 * weeks, y);
            Edge.is("the last week of " + y, weeks, x -> x.monthAt(16, y, weeks - 1));
            Edge.refuses("a week more of " + y, Edge.NO_SUCH, x -> x.monthAt(16, y, weeks));
            Edge.refuses("the length of a week more of " + y, Edge.ARGUMENT, x -> x.monthLength(16, y, weeks + 1));
        }
        EdgeYears.length(16, 371, 2004, 2009, 2015, 2020);
    }
}
