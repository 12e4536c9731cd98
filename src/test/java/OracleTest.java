import java.util.Random;

/** Compares the class with the oracle: on some days and years, or, with the argument all, on each. */
final class OracleTest {
    private static final Supply SUPPLY = new Supply();

    private OracleTest() {
    }

    public static void main(String[] args) {
        run(args.length > 0 && args[0].equals("all"));
        Check.tell();
        System.exit(Check.failed() == 0 ? 0 : 1);
    }

    static void run(boolean isAll) {
        for (int calendar = 0; calendar < Oracle.CALENDARS; calendar++) {
            Oracle oracle = Oracle.of(calendar);
            Check.group("oracle, calendar " + calendar);
            allFirsts(oracle);
            years(oracle, isAll ? 1 : 173);
            days(oracle, -1000000, 3000000, isAll ? 1 : 2477);
            steps(oracle, isAll ? 200000 : 400);
        }
        long[] changes = {500000, 500001, 577736, 600000, 657000, 693961, 700000, 730120, 739999, 740000};
        for (long change : changes) {
            mixed(change, isAll ? 500000 : 200);
        }
        if (isAll) {
            for (long change = 500000; change <= 740000; change += 61) {
                mixed(change, 100);
            }
        }
        SUPPLY.setChange(577736);
    }

    private static void mixed(long change, int steps) {
        Check.group("oracle, mixed with the change " + change);
        SUPPLY.setChange(change);
        Oracle oracle = Oracle.mixed(change);
        days(oracle, change - 800, change + 800, steps > 100 ? 1 : 7);
        int middle = oracle.years[oracle.at(change)];
        for (int year = middle - 2; year <= middle + 2; year++) {
            year(oracle, year);
        }
        Random random = new Random(change);
        for (int i = 0; i < steps; i++) {
            long day = change - 2000 + random.nextInt(4000);
            step(oracle, day, random.nextInt(9) - 4, random.nextInt(49) - 24);
            between(oracle, day, day + random.nextInt(3000));
        }
    }

    /** The first days and lengths of all years: what falls on the very edge of a delay is rare. */
    private static void allFirsts(Oracle oracle) {
        int wrong = 0;
        for (int at = 0; oracle.years[at] <= 19999; ) {
            int year = oracle.years[at];
            int next = at + 1;
            while (oracle.years[next] == year) {
                next++;
            }
            if (SUPPLY.get().newYear(oracle.calendar, year) != oracle.starts[at]
                    || SUPPLY.get().yearLength(oracle.calendar, year) != oracle.starts[next] - oracle.starts[at]) {
                wrong++;
            }
            at = next;
        }
        Check.holds("first days and lengths of all years, wrong: " + wrong, wrong == 0);
    }

    private static void years(Oracle oracle, int step) {
        int lowest = oracle.calendar == 11 ? 1 : -9999;
        for (int year = lowest; year <= 19999; year += step) {
            year(oracle, year);
        }
        year(oracle, 19999);
        for (int year = Math.max(lowest, -5); year <= 40; year++) {
            year(oracle, year);
        }
        for (int year = 3996; year <= 4004; year++) {
            year(oracle, year);
        }
    }

    private static void year(Oracle oracle, int year) {
        int c = oracle.calendar;
        int first = oracle.firstOf(year);
        if (first < 0) {
            Check.holds("only the year 0 of 1 and 2 is not there: " + year, year == 0 && (c == 1 || c == 2));
            Check.refuses("newYear " + year, IllegalArgumentException.class, () -> SUPPLY.get().newYear(c, year));
            return;
        }
        int count = oracle.countOf(year);
        boolean isSo = SUPPLY.get().newYear(c, year) == oracle.starts[first]
            && SUPPLY.get().yearLength(c, year) == oracle.starts[first + count] - oracle.starts[first];
        for (int i = 0; i < count; i++) {
            int number = oracle.numbers[first + i];
            isSo &= SUPPLY.get().monthAt(c, year, i) == number
                && SUPPLY.get().monthLength(c, year, number) == oracle.length(first + i);
        }
        Check.holds("year " + year, isSo);
        int months = count;
        Check.refuses("month " + count + " of " + year, java.util.NoSuchElementException.class,
            () -> SUPPLY.get().monthAt(c, year, months));
        for (int month = -1; month <= 55; month++) {
            int m = month;
            for (int date = 0; date <= 33; date += 31 + month % 2) {
                int d = date;
                boolean isDue = oracle.dayOf(year, month, date) != Oracle.NO_DAY;
                Check.is("isLawful " + year + " " + month + " " + date, isDue, () -> SUPPLY.get().isLawful(c, year, m, d));
            }
        }
    }

    private static void days(Oracle oracle, long from, long to, int step) {
        for (long day = from; day <= to; day += step) {
            day(oracle, day);
        }
        day(oracle, from);
        day(oracle, to);
    }

    private static void day(Oracle oracle, long day) {
        int c = oracle.calendar;
        int at = oracle.at(day);
        int date = oracle.dateOf(at, day);
        int year = oracle.years[at];
        boolean isSo = SUPPLY.get().part(c, day, 0) == year
            && SUPPLY.get().part(c, day, 1) == oracle.numbers[at]
            && SUPPLY.get().part(c, day, 2) == date
            && SUPPLY.get().part(c, day, 3) == day - oracle.starts[oracle.firstOf(year)] + 1
            && SUPPLY.get().dayOf(c, year, oracle.numbers[at], date) == day
            && SUPPLY.get().isLawful(c, year, oracle.numbers[at], date);
        Check.holds("day " + day, isSo);
    }

    private static void steps(Oracle oracle, int many) {
        Random random = new Random(7 + oracle.calendar);
        for (int i = 0; i < many; i++) {
            long day = random.nextInt(4000001) - 1000000;
            step(oracle, day, random.nextInt(41) - 20, random.nextInt(201) - 100);
            step(oracle, day, random.nextInt(2001) - 1000, random.nextInt(2001) - 1000);
            step(oracle, day, random.nextInt(40001) - 20000, random.nextInt(2001) - 1000);
            step(oracle, day, random.nextInt(9) - 4, 0);
            long to = Math.min(3000000, day + random.nextInt(random.nextBoolean() ? 900 : 40000));
            between(oracle, day, to);
            remembered(oracle, day, random.nextInt(i % 2 == 0 ? 4000001 : 1100000) - 1000000);
        }
        between(oracle, 2999900, 3000000);
        between(oracle, 3000000, 3000000);
        between(oracle, -1000000, -1000000);
    }

    private static boolean isWithin(long day) {
        return day >= -1000000 && day <= 3000000;
    }

    private static void step(Oracle oracle, long day, int years, int months) {
        long due = oracle.later(day, years, months);
        String what = "later " + day + " " + years + " " + months;
        Check.Call call = () -> SUPPLY.get().later(oracle.calendar, day, years, months);
        if (isWithin(due)) {
            Check.is(what, due, call);
        } else {
            Check.refuses(what, IllegalStateException.class, call);
        }
    }

    private static boolean isNotLater(Oracle oracle, long from, int years, int months, long to) {
        long day = oracle.later(from, years, months);
        return isWithin(day) && day <= to;
    }

    private static void between(Oracle oracle, long from, long to) {
        int years = 0;
        while (isNotLater(oracle, from, years + 1, 0, to)) {
            years++;
        }
        int months = 0;
        while (isNotLater(oracle, from, years, months + 1, to)) {
            months++;
        }
        Check.is("age " + from + " " + to, years, () -> SUPPLY.get().age(oracle.calendar, from, to));
        Check.is("ageMonths " + from + " " + to, months, () -> SUPPLY.get().ageMonths(oracle.calendar, from, to));
    }

    private static void remembered(Oracle oracle, long day, long behind) {
        // All years ahead of the last one are earlier, so the search may begin near the end.
        int n = Math.max(1, (int) ((behind - day) / 385) - 2);
        long due = oracle.later(day, n, 0);
        while (due <= behind) {
            n++;
            due = oracle.later(day, n, 0);
        }
        String what = "remembrance " + day + " " + behind;
        Check.Call call = () -> SUPPLY.get().remembrance(oracle.calendar, day, behind);
        if (isWithin(due)) {
            Check.is(what, due, call);
        } else {
            Check.refuses(what, IllegalStateException.class, call);
        }
    }
}
