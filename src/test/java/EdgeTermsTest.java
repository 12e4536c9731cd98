/** The boundary cases of the sections 1 and 3, and how long an object is used. */
final class EdgeTermsTest {
    private static final String DAYS = "1. DAYS";
    private static final String STEPS = "3. STEPS";
    private static final String CALLS = "An object is used for at most 512 calls after it has been made";
    private static final long FIRST = Edge.FIRST_DAY;
    private static final long LAST = Edge.LAST_DAY;

    private EdgeTermsTest() {
    }

    static void run() {
        calls();
        callsOfTheTape();
        callsOfTheReigns();
        callsOfTheSet();
        callsOfTheChange();
        bounds();
        told();
        quotients();
        yearSteps();
        monthSteps();
        daySteps();
        compared();
    }

    private static long day(int year, int month, int date) {
        return Oracle.gregorian(year, month, date);
    }

    private static void calls() {
        Edge.in("What it is", CALLS, "512 calls of each kind, of those that change nothing");
        Edge.Act[] acts = {x -> x.dayOf(2, 1582, 10, 15), x -> x.isLawful(18, 19999, 23, 1), x -> x.part(11, 730120, 3),
            x -> x.newYear(11, 19999), x -> x.yearLength(2, 1582), x -> x.monthAt(16, 2004, 52),
            x -> x.monthLength(13, 1, 19), x -> x.shift(0, LAST), x -> x.later(18, FIRST, 9000, 1000),
            x -> x.age(2, FIRST, LAST), x -> x.ageMonths(16, FIRST, FIRST + 365), x -> x.remembrance(17, FIRST, LAST - 400),
            x -> x.near(FIRST, 7, 3), x -> x.nth(2, 1582, 10, 5, -1), x -> x.feast(2, 9999, 6),
            x -> x.nextFeast(1, 0, FIRST), x -> x.position(7, FIRST), x -> x.again(1023), x -> x.meet(FIRST, 3, 365, 7, 1),
            x -> x.longCount(LAST, 4), x -> x.moon(Long.MAX_VALUE / 765433), x -> x.drift(11, false), x -> x.signAt(11),
            Manydays::fault, Manydays::read, x -> x.reignAt(LAST, 11, 2), x -> x.ofSet(LAST, 2),
            x -> x.meanYear(16, 19600, 400), x -> x.passed(18, LAST), x -> x.errors(577736), x -> x.far(0),
            x -> x.type(1), x -> x.toggle(LAST + 1), x -> x.gather(0, 1, 1, 0, 40001), x -> x.table(0, 0, 19999, 1)};
        for (int i = 0; i < acts.length; i++) {
            Manydays x = States.rich();
            Edge.Act act = acts[i];
            String due = Check.textOf(() -> act.on(x));
            int wrong = 0;
            // States.rich needs less than 32 calls itself.
            for (int k = 1; k < 480; k++) {
                wrong += Check.textOf(() -> act.on(x)).equals(due) ? 0 : 1;
            }
            Check.holds("call " + i + ", wrong: " + wrong, wrong == 0);
        }
    }

    private static void callsOfTheTape() {
        Edge.in("What it is", CALLS, "512 calls, the tape");
        Manydays tape = new Manydays();
        for (int i = 1; i <= 250; i++) {
            tape.type(0x6162636465666768L);
        }
        for (int i = 0; i < 261; i++) {
            int at = i * 7 % 2000;
            Check.is("sign " + at, (int) "abcdefgh".charAt(at % 8), () -> tape.signAt(at));
        }
        Check.is("the 512th call", 2000, tape::wipe);
    }

    private static void callsOfTheReigns() {
        Edge.in("What it is", CALLS, "512 calls, the reigns");
        Manydays reigns = new Manydays();
        for (int i = 0; i < 255; i++) {
            int name = i;
            Check.is("reign " + i, 1, () -> reigns.reign(name, name));
            Check.is("forgotten " + i, name, () -> reigns.forgetReign(LAST));
        }
        Check.is("the 511th call", 1, () -> reigns.reign(5, 7));
        Check.is("the 512th call", 7L, () -> reigns.reignAt(5, 0, 0));
    }

    private static void callsOfTheSet() {
        Edge.in("What it is", CALLS, "512 calls, the set");
        Manydays set = new Manydays();
        for (int i = 0; i < 510; i++) {
            long day = i % 255;
            Check.is("toggle " + i, i < 255, () -> set.toggle(day));
        }
        Check.is("the 511th call", 9, set::undo);
        Check.is("the 512th call", 1L, () -> set.ofSet(0, 0));
        Edge.in("What it is", CALLS, "512 calls, undone and done again");
        Manydays undone = new Manydays();
        for (int i = 0; i < 256; i++) {
            Check.is("gather " + i, 110, () -> undone.gather(0, 1, 1, 0, 40000));
            Check.is("undo " + i, 0, undone::undo);
        }
    }

    private static void callsOfTheChange() {
        Edge.in("What it is", CALLS, "512 calls, the change");
        Manydays change = new Manydays();
        long before = 577736;
        for (int i = 1; i <= 512; i++) {
            long due = before;
            long next = 500000 + i * 400;
            Check.is("change " + i, due, () -> change.setChange(next));
            before = next;
        }
    }

    private static void bounds() {
        Edge.in(DAYS, "the day 1 is a Monday, January 1 of the year 1 of the Gregorian calendar");
        Edge.is("its weekday", 1, x -> x.position(0, 1));
        Edge.is("its date", 1L, x -> x.dayOf(0, 1, 1, 1));
        Edge.is("its year", 1, x -> x.part(0, 1, 0));
        Edge.is("the day ahead", 0L, x -> x.dayOf(0, 0, 12, 31));
        Edge.is("its day by 16", 1, x -> x.part(16, 1, 2));
        String sentence = "The days from -1000000 to 3000000 are within the bounds";
        Edge.in(DAYS, sentence, "what is told a day: below and above");
        Edge.OfLong[] calls = {d -> x -> x.part(0, d, 0), d -> x -> x.shift(d, 0), d -> x -> x.later(0, d, 0, 0),
            d -> x -> x.age(0, d, d), d -> x -> x.ageMonths(0, d, d), d -> x -> x.near(d, 1, 0), d -> x -> x.position(0, d),
            d -> x -> x.longCount(d, 0), d -> x -> x.write(0, d), d -> x -> x.reign(d, 1), d -> x -> x.gather(0, 1, 1, d, d),
            d -> x -> x.toggle(d), d -> x -> x.passed(0, d), d -> x -> x.errors(d)};
        for (int i = 0; i < calls.length; i++) {
            Edge.days("call " + i + " of", calls[i]);
        }
        Edge.OfLong[] others = {d -> x -> x.remembrance(0, d, 0), d -> x -> x.remembrance(0, 0, d),
            d -> x -> x.nextFeast(0, 3, d), d -> x -> x.meet(d, 0, 1, 1, 1), d -> x -> x.forgetReign(d),
            d -> x -> x.reignAt(d, 0, 0)};
        for (int i = 0; i < others.length; i++) {
            Edge.refusesLongs("other call " + i + " of", Edge.STATE, others[i], Edge.BEYOND);
        }
        Edge.in(DAYS, sentence, "the lowest and the highest day by all calendars, there and back");
        for (int calendar = 0; calendar <= 18; calendar++) {
            int c = calendar;
            for (long day : new long[] {FIRST, FIRST + 1, LAST - 1, LAST}) {
                Edge.is("day " + day + " by " + c, day,
                    x -> x.dayOf(c, x.part(c, day, 0), x.part(c, day, 1), x.part(c, day, 2)));
            }
        }
    }

    private static void told() {
        String sentence = "what would tell, or is told, another day is refused (IllegalStateException)";
        Edge.in(DAYS, sentence, "what would tell the day below the lowest one");
        Oracle egyptian = Oracle.of(5);
        int below = egyptian.at(FIRST - 1);
        Edge.refuses("dayOf", Edge.STATE, x -> x.dayOf(5, egyptian.years[below], egyptian.numbers[below],
            egyptian.dateOf(below, FIRST - 1)));
        Edge.refuses("shift", Edge.STATE, x -> x.shift(FIRST, -1));
        Edge.refuses("later by months", Edge.STATE, x -> x.later(16, FIRST + 6, 0, -1));
        Edge.is("later by months, the lowest one", FIRST, x -> x.later(16, FIRST + 7, 0, -1));
        Edge.refuses("later by years", Edge.STATE, x -> x.later(5, FIRST + 364, -1, 0));
        Edge.is("later by years, the lowest one", FIRST, x -> x.later(5, FIRST + 365, -1, 0));
        Edge.in(DAYS, sentence, "what would tell the day above the highest one");
        Edge.refuses("shift", Edge.STATE, x -> x.shift(LAST, 1));
        Edge.refuses("later by months", Edge.STATE, x -> x.later(16, LAST - 6, 0, 1));
        Edge.is("later by months, the highest one", LAST, x -> x.later(16, LAST - 7, 0, 1));
        Edge.refuses("later by years", Edge.STATE, x -> x.later(5, LAST - 364, 1, 0));
        Edge.is("later by years, the highest one", LAST, x -> x.later(5, LAST - 365, 1, 0));
        Edge.refuses("remembrance", Edge.STATE, x -> x.remembrance(5, LAST - 364, 0));
        Edge.is("remembrance, the highest one", LAST, x -> x.remembrance(5, LAST - 365, 0));
        Edge.is("meet, the highest one", LAST, x -> x.meet(LAST - 6, 0, x.position(0, LAST), 0, x.position(0, LAST)));
        Edge.refuses("meet", Edge.STATE, x -> x.meet(LAST - 5, 0, x.position(0, LAST - 6), 0, x.position(0, LAST - 6)));
        Edge.in(DAYS, "unless it is told otherwise", "newYear, near, feast and moon, beyond the bounds");
        Edge.is("newYear", day(-9999, 1, 1), x -> x.newYear(0, -9999));
        Edge.is("newYear, above", day(19999, 1, 1), x -> x.newYear(0, 19999));
        Edge.is("near", FIRST - 7, x -> x.near(FIRST, x.position(0, FIRST), 3));
        Edge.is("near, above", LAST + 7, x -> x.near(LAST, x.position(0, LAST), 4));
        Check.holds("feast", new Manydays().feast(0, 9999, 6) > LAST);
        Check.holds("moon", new Manydays().moon(-1000000000L) < FIRST);
        Edge.is("isLawful", true, x -> x.isLawful(0, -9999, 1, 1));
        Edge.is("ofSet", 5L, x -> x.toggle(5) ? x.ofSet(Long.MIN_VALUE, 1) : 0L);
    }

    private static void quotients() {
        Edge.in("7. REIGNS, SETS", "The constants: `NONE = -1`: There is none.");
        Edge.is("NONE", -1, x -> Manydays.NONE);
        Edge.in(DAYS, "A quotient \"rounded down\" is the greatest whole number that is not greater", "below 0");
        Edge.is("the moon -1", -30L, x -> x.moon(-1));
        Edge.is("the moon -25920", -765433L, x -> x.moon(-25920));
        Edge.is("the moon -25921", -765463L, x -> x.moon(-25921));
        Edge.in(DAYS, "the REST of a by b is a less b times their quotient, rounded down", "below 0");
        Edge.is("a Sunday", 7, x -> x.position(0, 0));
        Edge.is("a Monday", 1, x -> x.position(0, -6));
        Edge.is("-1 of 3 is long", 366, x -> x.yearLength(3, -1));
        Edge.is("-2 of 3 is not", 365, x -> x.yearLength(3, -2));
        Edge.is("-4 of 0 is long", 366, x -> x.yearLength(0, -4));
        Edge.is("-100 of 0 is not", 365, x -> x.yearLength(0, -100));
        Edge.is("-400 of 0 is long", 366, x -> x.yearLength(0, -400));
        Edge.is("-1 of 7 is long", 355, x -> x.yearLength(7, -1));
        Edge.is("-28 of 7 is long", 355, x -> x.yearLength(7, -28));
        Edge.is("-3 of 12 is long", 366, x -> x.yearLength(12, -3));
    }

    private static void yearSteps() {
        String zero = "a year 0 that is not there is not counted";
        Edge.in(STEPS, zero, "on and back over it, by years");
        for (int calendar = 1; calendar <= 2; calendar++) {
            int c = calendar;
            long one = Oracle.of(c).dayOf(1, 6, 1);
            long minusOne = Oracle.of(c).dayOf(-1, 6, 1);
            long minusTwo = Oracle.of(c).dayOf(-2, 6, 1);
            Edge.is("from -1 to 1 by " + c, one, x -> x.later(c, minusOne, 1, 0));
            Edge.is("from 1 to -1 by " + c, minusOne, x -> x.later(c, one, -1, 0));
            Edge.is("from -2 to 1 by " + c, one, x -> x.later(c, minusTwo, 2, 0));
            Edge.is("from 1 to -2 by " + c, minusTwo, x -> x.later(c, one, -2, 0));
            Edge.is("from -2 to -1 by " + c, minusOne, x -> x.later(c, minusTwo, 1, 0));
            Edge.is("the age from -1 to 1 by " + c, 1, x -> x.age(c, minusOne, one));
            Edge.is("a day less by " + c, 0, x -> x.age(c, minusOne, one - 1));
            Edge.is("remembrance by " + c, one, x -> x.remembrance(c, minusOne, FIRST));
        }
        Edge.in(STEPS, zero, "on and back over it, by months");
        for (int calendar = 1; calendar <= 2; calendar++) {
            int c = calendar;
            long january = Oracle.of(c).dayOf(1, 1, 15);
            long december = Oracle.of(c).dayOf(-1, 12, 15);
            Edge.is("from December to January by " + c, january, x -> x.later(c, december, 0, 1));
            Edge.is("from January to December by " + c, december, x -> x.later(c, january, 0, -1));
        }
        Edge.in(STEPS, "its date goes so many years on (or back", "with a year 0 that is there");
        for (int calendar = 0; calendar <= 18; calendar++) {
            int c = calendar;
            if (c != 1 && c != 2 && c != 11) {
                long one = Oracle.of(c).dayOf(1, 1, 5);
                long none = Oracle.of(c).dayOf(0, 1, 5);
                if (one >= FIRST && none >= FIRST) {
                    Edge.is("from 0 to 1 by " + c, one, x -> x.later(c, none, 1, 0));
                    Edge.is("from 1 to 0 by " + c, none, x -> x.later(c, one, -1, 0));
                }
            }
        }
        Edge.in(STEPS, "if that year has not the month, it is the latest month of it with a lesser number");
        Oracle hebrew = Oracle.of(11);
        long thirteenth = hebrew.dayOf(5784, 13, 29);
        Edge.is("13 of 11 on", hebrew.dayOf(5785, 12, 29), x -> x.later(11, thirteenth, 1, 0));
        Edge.is("13 of 11 back", hebrew.dayOf(5783, 12, 29), x -> x.later(11, thirteenth, -1, 0));
        Edge.is("13 of 11 and a month", hebrew.dayOf(5786, 1, 29), x -> x.later(11, thirteenth, 1, 1));
        Edge.is("13 of 11 to a long year", hebrew.dayOf(5787, 13, 29), x -> x.later(11, thirteenth, 3, 0));
        Oracle weeks = Oracle.of(16);
        long week = weeks.dayOf(2004, 53, 4);
        Edge.is("53 of 16 on", weeks.dayOf(2005, 52, 4), x -> x.later(16, week, 1, 0));
        Edge.is("53 of 16 to a year with it", weeks.dayOf(2009, 53, 4), x -> x.later(16, week, 5, 0));
        evenMoons();
    }

    /** The moons without a term, which have even numbers, in a year without such a moon, or with another one. */
    private static void evenMoons() {
        Oracle moons = Oracle.of(18);
        int seen = 0;
        for (int at = moons.at(700000); at < moons.at(720000); at++) {
            if (moons.numbers[at] % 2 == 0) {
                long day = moons.starts[at] + 20;
                for (int years = -4; years <= 4; years++) {
                    int more = years;
                    Edge.is(years + " years from " + day, moons.later(day, more, 0), x -> x.later(18, day, more, 0));
                }
                seen++;
            }
        }
        Check.holds("there are such moons", seen > 10);
    }

    private static void monthSteps() {
        Edge.in(STEPS, "one behind the other, over the ends of years", "from the last month to the first one, and back");
        for (int calendar = 0; calendar <= 18; calendar++) {
            int c = calendar;
            Oracle oracle = Oracle.of(c);
            long first = oracle.starts[oracle.firstOf(2501)];
            int last = oracle.firstOf(2501) - 1;
            long here = oracle.starts[last];
            Edge.is("on by " + c, first, x -> x.later(c, here, 0, 1));
            Edge.is("back by " + c, here, x -> x.later(c, first, 0, -1));
            int months = oracle.countOf(2500);
            long start = oracle.starts[oracle.firstOf(2500)];
            Edge.is("a year of months by " + c, first, x -> x.later(c, start, 0, months));
            Edge.is("a year of months back by " + c, start, x -> x.later(c, first, 0, -months));
            Edge.is("one less by " + c, here, x -> x.later(c, start, 0, months - 1));
            Edge.is("a year on and its months back by " + c, start, x -> x.later(c, start, 1, -months));
        }
        Edge.in(STEPS, "What would leave the years, also by the years alone, is refused by IllegalStateException");
        for (int calendar = 0; calendar <= 18; calendar++) {
            int c = calendar;
            Oracle oracle = Oracle.of(c);
            int lowest = c == 11 ? 1 : -9999;
            int high = 19999 - oracle.years[oracle.at(LAST)];
            int low = lowest - oracle.years[oracle.at(FIRST)];
            for (int more = high - 1; more <= high + 2; more++) {
                int years = more;
                Edge.refuses(years + " years by " + c, Edge.STATE, x -> x.later(c, LAST, years, 0));
                Edge.refuses(years + " years and 1000 months back by " + c, Edge.STATE, x -> x.later(c, LAST, years, -1000));
                Edge.refuses(years + " years and a month by " + c, Edge.STATE, x -> x.later(c, LAST, years, 1));
            }
            for (int more = low - 2; more <= low + 1; more++) {
                int years = more;
                Edge.refuses(years + " years by " + c, Edge.STATE, x -> x.later(c, FIRST, years, 0));
                Edge.refuses(years + " years and 1000 months on by " + c, Edge.STATE, x -> x.later(c, FIRST, years, 1000));
                Edge.refuses(years + " years and a month back by " + c, Edge.STATE, x -> x.later(c, FIRST, years, -1));
            }
        }
    }

    private static void daySteps() {
        String sentence = "The day is the same, or, if the month has it not, the greatest one that is less, or, if there is none "
            + "such, the least one of the month.";
        Edge.in(STEPS, sentence, "the last days of months");
        Edge.is("January 28", day(2001, 2, 28), x -> x.later(0, day(2001, 1, 28), 0, 1));
        Edge.is("January 29", day(2001, 2, 28), x -> x.later(0, day(2001, 1, 29), 0, 1));
        Edge.is("January 31", day(2001, 2, 28), x -> x.later(0, day(2001, 1, 31), 0, 1));
        Edge.is("January 31 of a long year", day(2004, 2, 29), x -> x.later(0, day(2004, 1, 31), 0, 1));
        Edge.is("March 31, two months back", day(2001, 1, 31), x -> x.later(0, day(2001, 3, 31), 0, -2));
        Edge.is("February 29, a year on", day(2005, 2, 28), x -> x.later(0, day(2004, 2, 29), 1, 0));
        Edge.is("February 29, four years back", day(2000, 2, 29), x -> x.later(0, day(2004, 2, 29), -4, 0));
        Edge.is("the 6th of the days between the years of 3", Oracle.of(3).dayOf(4, 13, 5),
            x -> x.later(3, Oracle.of(3).dayOf(3, 13, 6), 1, 0));
        Edge.is("the 30th, to a month of 5 days", Oracle.of(5).dayOf(2000, 13, 5),
            x -> x.later(5, Oracle.of(5).dayOf(2000, 12, 30), 0, 1));
        Edge.in(STEPS, sentence, "the greatest one that is less: the days that the change left out");
        for (int date = 4; date <= 16; date++) {
            long from = day(1582, 11, date);
            long due = date <= 4 ? 577735 - 4 + date : date < 15 ? 577735 : day(1582, 10, date);
            Edge.is("November " + date + ", a month back", due, x -> x.later(2, from, 0, -1));
        }
        Edge.in(STEPS, sentence, "the least one of the month: a month that the change has cut at its beginning");
        long change = day(1700, 3, 6);
        for (int date = 1; date <= 8; date++) {
            long from = day(1700, 4, date);
            long due = day(1700, 3, Math.max(6, date));
            Edge.is("April " + date + ", a month back", due, Edge.withChange(change, x -> x.later(2, from, 0, -1)));
        }
        Edge.in(STEPS, "The day is the same", "no years and no months");
        for (int calendar = 0; calendar <= 18; calendar++) {
            int c = calendar;
            for (long day : new long[] {FIRST, -1, 0, 577735, 577736, 730120, LAST}) {
                Edge.is("day " + day + " by " + c, day, x -> x.later(c, day, 0, 0));
            }
        }
    }

    private static void compared() {
        String sentence = "a day that would be out of the bounds, or out of the years, counts as later than all";
        Edge.in(STEPS, sentence, "age and ageMonths up to the highest day");
        for (int calendar = 0; calendar <= 18; calendar++) {
            int c = calendar;
            for (long from : new long[] {LAST, LAST - 1, LAST - 364, LAST - 365, LAST - 366, LAST - 385}) {
                int years = Oracle.of(c).later(from, 1, 0) <= LAST ? 1 : 0;
                Edge.is("age from " + from + " by " + c, years, x -> x.age(c, from, LAST));
                int due = monthsTo(c, from, years);
                Edge.is("ageMonths from " + from + " by " + c, due, x -> x.ageMonths(c, from, LAST));
                Edge.is("the year of a reign from " + from + " by " + c, years + 1L,
                    Edge.after(x -> x.reign(from, 1), x -> x.reignAt(LAST, c, 2)));
            }
        }
    }

    private static int monthsTo(int calendar, long from, int years) {
        int months = 0;
        while (Oracle.of(calendar).later(from, years, months + 1) <= LAST) {
            months++;
        }
        return months;
    }
}
