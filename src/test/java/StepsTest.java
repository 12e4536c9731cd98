import java.util.NoSuchElementException;

/** Promises 10 to 16. The oracle test makes steps in all calendars; here stand edges and refusals. */
final class StepsTest {
    private static final Class<IndexOutOfBoundsException> INDEX = IndexOutOfBoundsException.class;
    private static final Class<IllegalArgumentException> ARGUMENT = IllegalArgumentException.class;
    private static final Class<IllegalStateException> STATE = IllegalStateException.class;
    private static final Class<NoSuchElementException> NONE = NoSuchElementException.class;

    private StepsTest() {
    }

    static void run() {
        shift();
        later();
        age();
        ageMonths();
        remembrance();
        near();
        nth();
    }

    private static long day(int y, int m, int d) {
        return Oracle.gregorian(y, m, d);
    }

    private static void shift() {
        Check.promise(10, "shift");
        Manydays x = new Manydays();
        Check.is("on", 12L, () -> x.shift(5, 7));
        Check.is("back", -2L, () -> x.shift(5, -7));
        Check.is("to the end", 3000000L, () -> x.shift(-1000000, 4000000));
        Check.is("to the beginning", -1000000L, () -> x.shift(3000000, -4000000));
        Check.is("by 0", 3L, () -> x.shift(3, 0));
        Check.refuses("sum above", STATE, () -> x.shift(3000000, 1));
        Check.refuses("sum below", STATE, () -> x.shift(-1000000, -1));
        Check.refuses("day above, sum within", STATE, () -> x.shift(3000001, -5));
        Check.refuses("day below, sum within", STATE, () -> x.shift(-1000001, 5));
        Check.refuses("no long", ArithmeticException.class, () -> x.shift(1, Long.MAX_VALUE));
        Check.refuses("no long below", ArithmeticException.class, () -> x.shift(-1, Long.MIN_VALUE));
        Check.refuses("no long goes first", ArithmeticException.class, () -> x.shift(Long.MAX_VALUE, 1));
        Check.refuses("twice the least", ArithmeticException.class, () -> x.shift(Long.MIN_VALUE, Long.MIN_VALUE));
        Check.refuses("a long at its end", STATE, () -> x.shift(0, Long.MAX_VALUE));
        Check.refuses("a long at its beginning", STATE, () -> x.shift(0, Long.MIN_VALUE));
        Check.refuses("greatest and least", STATE, () -> x.shift(Long.MAX_VALUE, Long.MIN_VALUE));
        Check.refuses("least and 0", STATE, () -> x.shift(Long.MIN_VALUE, 0));
    }

    private static void later() {
        Check.promise(11, "later");
        Manydays x = new Manydays();
        Check.refuses("calendar", INDEX, () -> x.later(19, 3000001, 20001, 1001));
        Check.refuses("years above", ARGUMENT, () -> x.later(0, 3000001, 20001, 0));
        Check.refuses("years below", ARGUMENT, () -> x.later(0, 1, -20001, 0));
        Check.refuses("months above", ARGUMENT, () -> x.later(0, 1, 0, 1001));
        Check.refuses("months below", ARGUMENT, () -> x.later(0, 1, 0, -1001));
        Check.refuses("least years", ARGUMENT, () -> x.later(0, 1, Integer.MIN_VALUE, 0));
        Check.refuses("greatest months", ARGUMENT, () -> x.later(0, 1, 0, Integer.MAX_VALUE));
        Check.refuses("months ahead of the day", ARGUMENT, () -> x.later(0, 3000001, 0, 1001));
        Check.refuses("day above", STATE, () -> x.later(0, 3000001, 0, 0));
        Check.refuses("day below", STATE, () -> x.later(0, -1000001, 1, 0));
        Check.refuses("told day above", STATE, () -> x.later(0, 3000000, 0, 1));
        Check.refuses("told day below", STATE, () -> x.later(0, -1000000, 0, -1));
        Check.refuses("years are left", STATE, () -> x.later(0, 1, 20000, 0));
        Check.refuses("years are left backwards", STATE, () -> x.later(0, 1, -20000, 0));
        Check.refuses("11 ahead of its first year", STATE, () -> x.later(11, -1000000, -1500, 0));
        Check.is("February 29 and a year", day(2001, 2, 28), () -> x.later(0, day(2000, 2, 29), 1, 0));
        Check.is("February 29 and four years", day(2004, 2, 29), () -> x.later(0, day(2000, 2, 29), 4, 0));
        Check.is("the day is kept over the years", day(2001, 3, 29), () -> x.later(0, day(2000, 2, 29), 1, 1));
        Check.is("January 31 and a month", day(2001, 2, 28), () -> x.later(0, day(2001, 1, 31), 0, 1));
        Check.is("January 31 and 13 months", day(2002, 2, 28), () -> x.later(0, day(2001, 1, 31), 0, 13));
        Check.is("March 31 less a month", day(2001, 2, 28), () -> x.later(0, day(2001, 3, 31), 0, -1));
        Check.is("January less a month", day(2000, 12, 15), () -> x.later(0, day(2001, 1, 15), 0, -1));
        Check.is("1000 months", day(2084, 4, 30), () -> x.later(0, day(2000, 12, 31), 0, 1000));
        Check.is("years on and months back", day(2001, 11, 30), () -> x.later(0, day(2000, 1, 31), 2, -2));
        Check.is("no year 0 in 1", -1L, () -> x.later(1, -367, 1, 0));
        Check.is("no year 0 in 1, backwards", -367L, () -> x.later(1, -1, -1, 0));
        Check.is("no year 0 in 2", -1L, () -> x.later(2, -367, 1, 0));
        Check.is("a year 0 in 0", day(0, 1, 1), () -> x.later(0, 1, -1, 0));
        Check.is("months over the year that is not there", 29L, () -> x.later(1, -2, 0, 1));
        Check.is("into the gap", 577735L, () -> x.later(2, 577735 + 6 - 30, 0, 1));
        Check.is("the gap by years", 577735L, () -> x.later(2, x.dayOf(2, 1581, 10, 10), 1, 0));
        changeAtNewYear();
        long elul = x.dayOf(11, 5784, 13, 29);
        Check.is("month 13 of 11 and a year", x.dayOf(11, 5785, 12, 29), () -> x.later(11, elul, 1, 0));
        Check.is("week 53 and a year", x.dayOf(16, 2005, 52, 4), () -> x.later(16, x.dayOf(16, 2004, 53, 4), 1, 0));
        Check.is("a week", day(2005, 1, 6), () -> x.later(16, day(2004, 12, 30), 0, 1));
        Check.is("the days between the years of 3", x.dayOf(3, 4, 13, 5), () -> x.later(3, x.dayOf(3, 3, 13, 6), 1, 0));
        Check.is("month 18 of 13 and a month", x.dayOf(13, 1, 19, 4), () -> x.later(13, x.dayOf(13, 1, 18, 19), 0, 1));
    }

    /** Where a month of 2 begins behind the day, it is the least one that it has. */
    private static void changeAtNewYear() {
        Manydays x = new Manydays();
        long change = day(1600, 1, 5);
        x.setChange(change);
        long from = x.dayOf(2, 1599, 1, 3);
        Check.is("the least one of the month", change, () -> x.later(2, from, 1, 0));
        Check.is("the greatest one that is less", change - 1, () -> x.later(2, x.dayOf(2, 1599, 11, 30), 0, 1));
        Check.is("back into it", change, () -> x.later(2, day(1600, 2, 2), 0, -1));
    }

    private static void age() {
        Check.promise(12, "age");
        Manydays x = new Manydays();
        Check.refuses("calendar", INDEX, () -> x.age(19, 3000001, -1000001));
        Check.refuses("from", STATE, () -> x.age(0, -1000001, 5));
        Check.refuses("to", STATE, () -> x.age(0, 5, 3000001));
        Check.refuses("a day out of the bounds goes first", STATE, () -> x.age(0, 3000001, 5));
        Check.refuses("to is earlier", ARGUMENT, () -> x.age(0, 6, 5));
        Check.is("the same day", 0, () -> x.age(0, 5, 5));
        Check.is("a day less than a year", 0, () -> x.age(0, day(2001, 5, 5), day(2002, 5, 4)));
        Check.is("a year", 1, () -> x.age(0, day(2001, 5, 5), day(2002, 5, 5)));
        Check.is("February 29", 1, () -> x.age(0, day(2000, 2, 29), day(2001, 2, 28)));
        Check.is("ahead of it", 0, () -> x.age(0, day(2000, 2, 29), day(2001, 2, 27)));
        Check.is("over the year that is not there", 1, () -> x.age(1, -367, -1));
        Check.is("over a year 0", 2, () -> x.age(0, day(-1, 6, 1), day(1, 6, 1)));
        Check.is("all days", x.part(0, 3000000, 0) - x.part(0, -1000000, 0) - 1 + lastYear(x),
            () -> x.age(0, -1000000, 3000000));
    }

    private static int lastYear(Manydays x) {
        return x.part(0, -1000000, 3) <= x.part(0, 3000000, 3) ? 1 : 0;
    }

    private static void ageMonths() {
        Check.promise(13, "ageMonths");
        Manydays x = new Manydays();
        Check.refuses("calendar", INDEX, () -> x.ageMonths(-1, 3000001, -1000001));
        Check.refuses("from", STATE, () -> x.ageMonths(0, -1000001, 5));
        Check.refuses("to", STATE, () -> x.ageMonths(0, 5, 3000001));
        Check.refuses("a day out of the bounds goes first", STATE, () -> x.ageMonths(0, 3000001, 5));
        Check.refuses("to is earlier", ARGUMENT, () -> x.ageMonths(0, 6, 5));
        Check.is("the same day", 0, () -> x.ageMonths(0, 5, 5));
        Check.is("11", 11, () -> x.ageMonths(0, day(2001, 5, 5), day(2002, 5, 4)));
        Check.is("none behind a year", 0, () -> x.ageMonths(0, day(2001, 5, 5), day(2002, 5, 5)));
        Check.is("January 31 to February 28", 1, () -> x.ageMonths(0, day(2001, 1, 31), day(2001, 2, 28)));
        Check.is("January 31 to March 30", 1, () -> x.ageMonths(0, day(2001, 1, 31), day(2001, 3, 30)));
        Check.is("February 29, a year and a month", 0, () -> x.ageMonths(0, day(2000, 2, 29), day(2001, 3, 28)));
        Check.is("and a day", 1, () -> x.ageMonths(0, day(2000, 2, 29), day(2001, 3, 29)));
        Check.is("12 months of a long year of 11", 12,
            () -> x.ageMonths(11, x.dayOf(11, 5784, 1, 1), x.dayOf(11, 5784, 13, 29)));
        Check.is("51 weeks", 51, () -> x.ageMonths(16, x.dayOf(16, 2003, 1, 1), x.dayOf(16, 2003, 52, 7)));
        Check.is("52 weeks", 52, () -> x.ageMonths(16, x.dayOf(16, 2004, 1, 1), x.dayOf(16, 2004, 53, 7)));
    }

    private static void remembrance() {
        Check.promise(14, "remembrance");
        Manydays x = new Manydays();
        Check.refuses("calendar", INDEX, () -> x.remembrance(19, 3000001, 3000001));
        Check.refuses("day", STATE, () -> x.remembrance(0, 3000001, 5));
        Check.refuses("day below", STATE, () -> x.remembrance(0, -1000001, 5));
        Check.refuses("behind", STATE, () -> x.remembrance(0, 5, 3000001));
        Check.refuses("behind below", STATE, () -> x.remembrance(0, 5, -1000001));
        Check.refuses("told day", STATE, () -> x.remembrance(0, 5, 3000000));
        Check.refuses("told day is the first one", STATE, () -> x.remembrance(0, 2999999, -1000000));
        Check.is("a year later at least", day(2002, 5, 5), () -> x.remembrance(0, day(2001, 5, 5), -1000000));
        Check.is("not the day itself", day(2002, 5, 5), () -> x.remembrance(0, day(2001, 5, 5), day(2001, 5, 4)));
        Check.is("ahead of it in the year", day(2010, 5, 5), () -> x.remembrance(0, day(2001, 5, 5), day(2010, 5, 4)));
        Check.is("on it, the next one", day(2011, 5, 5), () -> x.remembrance(0, day(2001, 5, 5), day(2010, 5, 5)));
        Check.is("February 29", day(2003, 2, 28), () -> x.remembrance(0, day(2000, 2, 29), day(2002, 2, 28)));
        Check.is("February 29, long", day(2004, 2, 29), () -> x.remembrance(0, day(2000, 2, 29), day(2004, 2, 28)));
        Check.is("month 13 of 11", x.dayOf(11, 5785, 12, 29),
            () -> x.remembrance(11, x.dayOf(11, 5784, 13, 29), x.dayOf(11, 5785, 12, 28)));
    }

    private static void near() {
        Check.promise(15, "near");
        for (int weekday = 1; weekday <= 7; weekday++) {
            int w = weekday;
            Manydays x = new Manydays();
            for (long day = -10; day <= 10; day++) {
                long d = day;
                for (int how = 0; how <= 4; how++) {
                    int h = how;
                    Check.is("near " + d + " " + w + " " + h, nearDue(d, w, h), () -> x.near(d, w, h));
                }
            }
        }
        Manydays x = new Manydays();
        Check.refuses("day above", STATE, () -> x.near(3000001, 8, 5));
        Check.refuses("day below", STATE, () -> x.near(-1000001, 1, 0));
        Check.refuses("weekday 0", ARGUMENT, () -> x.near(1, 0, 0));
        Check.refuses("weekday 8", ARGUMENT, () -> x.near(1, 8, 0));
        Check.refuses("how -1", ARGUMENT, () -> x.near(1, 1, -1));
        Check.refuses("how 5", ARGUMENT, () -> x.near(1, 1, 5));
        int first = x.position(0, -1000000);
        int last = x.position(0, 3000000);
        Check.is("below the bounds", -1000007L, () -> x.near(-1000000, first, 3));
        Check.is("above the bounds", 3000007L, () -> x.near(3000000, last, 4));
    }

    private static long nearDue(long day, int weekday, int how) {
        long best = day + 100;
        for (long d = day - 8; d <= day + 8; d++) {
            boolean isRight = Math.floorMod(d - 1, 7L) + 1 == weekday
                && (how == 0 && d <= day || how == 1 && d >= day || how == 2 || how == 3 && d < day || how == 4 && d > day);
            if (isRight && Math.abs(d - day) < Math.abs(best - day)) {
                best = d;
            }
        }
        return best;
    }

    private static void nth() {
        Check.promise(16, "nth");
        Manydays x = new Manydays();
        Check.refuses("calendar", INDEX, () -> x.nth(19, 20000, 0, 0, 0));
        Check.refuses("year", ARGUMENT, () -> x.nth(0, 20000, 1, 1, 1));
        Check.refuses("month", ARGUMENT, () -> x.nth(0, 2000, 13, 1, 1));
        Check.refuses("weekday 0", ARGUMENT, () -> x.nth(0, 2000, 1, 0, 1));
        Check.refuses("weekday 8", ARGUMENT, () -> x.nth(0, 2000, 1, 8, 1));
        Check.refuses("n 0", ARGUMENT, () -> x.nth(0, 2000, 1, 1, 0));
        Check.refuses("n 0 of a year that has not begun", ARGUMENT, () -> x.nth(11, 0, 1, 1, 0));
        Check.refuses("weekday of a year that has not begun", ARGUMENT, () -> x.nth(11, 0, 1, 8, 1));
        Check.refuses("not begun, whatever the month", STATE, () -> x.nth(11, 0, 99, 1, 1));
        Check.refuses("not begun, not so many", STATE, () -> x.nth(11, 0, 1, 1, 9));
        Check.refuses("out of the bounds", STATE, () -> x.nth(0, 19999, 1, 1, 1));
        Check.refuses("out of the bounds, but there is none", NONE, () -> x.nth(0, 19999, 1, 1, 6));
        Check.refuses("6th", NONE, () -> x.nth(0, 2000, 1, 6, 6));
        Check.refuses("6th from behind", NONE, () -> x.nth(0, 2000, 1, 6, -6));
        Check.refuses("5th of four", NONE, () -> x.nth(0, 2001, 2, 1, 5));
        Check.refuses("greatest n", NONE, () -> x.nth(0, 2000, 1, 6, Integer.MAX_VALUE));
        Check.refuses("least n", NONE, () -> x.nth(0, 2000, 1, 6, Integer.MIN_VALUE));
        Check.is("the first is day 1", day(2000, 1, 1), () -> x.nth(0, 2000, 1, 6, 1));
        Check.is("the 5th", day(2000, 1, 29), () -> x.nth(0, 2000, 1, 6, 5));
        Check.is("the last is that", day(2000, 1, 29), () -> x.nth(0, 2000, 1, 6, -1));
        Check.is("the 5th from behind", day(2000, 1, 1), () -> x.nth(0, 2000, 1, 6, -5));
        Check.is("a last day of a month", day(2000, 1, 31), () -> x.nth(0, 2000, 1, 1, -1));
        Check.is("not the day behind the month", day(2000, 1, 25), () -> x.nth(0, 2000, 1, 2, -1));
        Check.refuses("nor as the 5th", NONE, () -> x.nth(0, 2000, 1, 2, 5));
        Check.is("not the day ahead of the month", day(2000, 1, 7), () -> x.nth(0, 2000, 1, 5, 1));
        Check.refuses("nor as the 5th from behind", NONE, () -> x.nth(0, 2000, 1, 5, -5));
        Check.is("4th Thursday of November", day(2024, 11, 28), () -> x.nth(0, 2024, 11, 4, 4));
        Check.is("over the gap", 577743L, () -> x.nth(2, 1582, 10, 5, 2));
        Check.is("last of the month with the gap", 577750L, () -> x.nth(2, 1582, 10, 5, -1));
        Check.is("a week has one", day(2005, 1, 2), () -> x.nth(16, 2004, 53, 7, 1));
        Check.refuses("a week has no two", NONE, () -> x.nth(16, 2004, 53, 7, 2));
        java.util.Random random = new java.util.Random(16);
        Supply supply = new Supply();
        for (int i = 0; i < 4000; i++) {
            Oracle oracle = Oracle.of(i % 19);
            int at = i < 200 && i % 19 == 2 ? oracle.at(577736) : oracle.at(random.nextInt(3900000) - 900000);
            nthByChance(supply, oracle, at, 1 + random.nextInt(7), random.nextInt(13) - 6);
        }
    }

    private static void nthByChance(Supply supply, Oracle oracle, int at, int weekday, int n) {
        int year = oracle.years[at];
        int month = oracle.numbers[at];
        java.util.List<Long> there = new java.util.ArrayList<>();
        for (long day = oracle.starts[at]; day < oracle.starts[at + 1]; day++) {
            if (Math.floorMod(day - 1, 7L) + 1 == weekday) {
                there.add(day);
            }
        }
        String what = "nth of " + oracle.calendar + ": " + year + " " + month + " " + weekday + " " + n;
        Check.Call call = () -> supply.get().nth(oracle.calendar, year, month, weekday, n);
        if (n == 0) {
            Check.refuses(what, ARGUMENT, call);
        } else if (Math.abs(n) > there.size()) {
            Check.refuses(what, NONE, call);
        } else {
            Check.is(what, there.get(n > 0 ? n - 1 : there.size() + n), call);
        }
    }
}
