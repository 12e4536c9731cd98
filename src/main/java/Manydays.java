import java.util.NoSuchElementException;

/** Calendars of many peoples over one count of days: the document tells what each word here means. */
public final class Manydays {
    public static final int NONE = -1;

    private static final long FIRST_DAY = -1000000;
    private static final long LAST_DAY = 3000000;
    /** Stands for a day that is not there; as the greatest long it also counts as later than all days. */
    private static final long NO_DAY = Long.MAX_VALUE;
    private static final int CALENDARS = 19;
    private static final int JULIAN = 1;
    private static final int MIXED = 2;
    private static final int HEBREW = 11;
    private static final int LONGEST_SPAN = 40000;
    private static final int MOST_DIGITS = 60;

    private final Dates dates;
    private final Tape tape;
    private final Reading reading;
    private final Reigns reigns;
    private final DaySet set;

    public Manydays() {
        dates = new Dates();
        tape = new Tape();
        reading = new Reading();
        reigns = new Reigns();
        set = new DaySet();
    }

    // ---- dates

    public long dayOf(int calendar, int year, int month, int day)
            throws IndexOutOfBoundsException, IllegalArgumentException, IllegalStateException {
        needCalendar(calendar);
        long found = dates.dayWith(calendar, year, month, day);
        if (found == NO_DAY) {
            throw new IllegalArgumentException("the date is not lawful");
        }
        needDay(found);
        return found;
    }

    public boolean isLawful(int calendar, int year, int month, int day) throws IndexOutOfBoundsException {
        needCalendar(calendar);
        return dates.dayWith(calendar, year, month, day) != NO_DAY;
    }

    public int part(int calendar, long day, int what)
            throws IndexOutOfBoundsException, IllegalStateException, IllegalArgumentException {
        needCalendar(calendar);
        needDay(day);
        needRange(what, 0, 3);
        dates.find(calendar, day);
        switch (what) {
            case 0: return dates.yearFound();
            case 1: return dates.monthFound();
            case 2: return dates.dateFound();
            default: return (int) (day - dates.startOf(0) + 1);
        }
    }

    public long newYear(int calendar, int year)
            throws IndexOutOfBoundsException, IllegalArgumentException, IllegalStateException {
        needCalendar(calendar);
        return dates.firstOf(calendar, needYear(calendar, year));
    }

    public int yearLength(int calendar, int year)
            throws IndexOutOfBoundsException, IllegalArgumentException, IllegalStateException {
        needCalendar(calendar);
        return dates.daysOf(calendar, needYear(calendar, year), 1);
    }

    public int monthAt(int calendar, int year, int index)
            throws IndexOutOfBoundsException, IllegalArgumentException, IllegalStateException, NoSuchElementException {
        needCalendar(calendar);
        dates.lay(calendar, needYear(calendar, year));
        if (index < 0 || index >= dates.months()) {
            throw new NoSuchElementException("the year has not so many months");
        }
        return dates.monthNumber(index);
    }

    public int monthLength(int calendar, int year, int month)
            throws IndexOutOfBoundsException, IllegalArgumentException, IllegalStateException {
        needCalendar(calendar);
        int index = needMonth(calendar, year, month);
        return (int) (dates.startOf(index + 1) - dates.startOf(index));
    }

    public long setChange(long day) throws IllegalArgumentException {
        if (day < Dates.FIRST_CHANGE || day > Dates.LAST_CHANGE) {
            throw new IllegalArgumentException("the change is out of range");
        }
        return dates.exchange(day);
    }

    // ---- steps

    public long shift(long day, long more) throws ArithmeticException, IllegalStateException {
        if (more > 0 ? day > Long.MAX_VALUE - more : day < Long.MIN_VALUE - more) {
            throw new ArithmeticException("the sum is no long");
        }
        needDay(day);
        needDay(day + more);
        return day + more;
    }

    public long later(int calendar, long day, int years, int months)
            throws IndexOutOfBoundsException, IllegalArgumentException, IllegalStateException {
        needCalendar(calendar);
        needRange(years, -20000, 20000);
        needRange(months, -1000, 1000);
        needDay(day);
        long found = dates.stepped(calendar, day, years, months);
        needDay(found);
        return found;
    }

    public int age(int calendar, long from, long to)
            throws IndexOutOfBoundsException, IllegalStateException, IllegalArgumentException {
        needCalendar(calendar);
        needSpan(from, to);
        return dates.yearsBetween(calendar, from, to);
    }

    public int ageMonths(int calendar, long from, long to)
            throws IndexOutOfBoundsException, IllegalStateException, IllegalArgumentException {
        needCalendar(calendar);
        needSpan(from, to);
        int years = dates.yearsBetween(calendar, from, to);
        return dates.monthsBetween(calendar, from, to, years);
    }

    public long remembrance(int calendar, long day, long behind)
            throws IndexOutOfBoundsException, IllegalStateException {
        needCalendar(calendar);
        needDay(day);
        needDay(behind);
        // The day LATER by n years is in the n-th year behind, so only two n can be the least.
        int years = Math.max(1, dates.yearDifference(calendar, day, behind));
        long found = dates.stepped(calendar, day, years, 0);
        if (found <= behind) {
            found = dates.stepped(calendar, day, years + 1, 0);
        }
        needDay(found);
        return found;
    }

    public long near(long day, int weekday, int how) throws IllegalStateException, IllegalArgumentException {
        needDay(day);
        needRange(weekday, 1, 7);
        needRange(how, 0, 4);
        switch (how) {
            case 0: return Years.notLater(day, weekday);
            case 1: return Years.notEarlier(day, weekday);
            case 2: return Years.notLater(day + 3, weekday);
            case 3: return Years.notLater(day - 1, weekday);
            default: return Years.notEarlier(day + 1, weekday);
        }
    }

    public long nth(int calendar, int year, int month, int weekday, int n)
            throws IndexOutOfBoundsException, IllegalArgumentException, IllegalStateException, NoSuchElementException {
        needCalendar(calendar);
        needRange(weekday, 1, 7);
        if (n == 0) {
            throw new IllegalArgumentException("there is no day with the number 0");
        }
        int index = needMonth(calendar, year, month);
        long first = dates.startOf(index);
        long last = dates.startOf(index + 1) - 1;
        long found = n > 0
            ? Years.notEarlier(first, weekday) + 7L * (n - 1)
            : Years.notLater(last, weekday) + 7L * (n + 1);
        if (found < first || found > last) {
            throw new NoSuchElementException("the month has not so many");
        }
        needDay(found);
        return found;
    }

    // ---- Easter

    public long feast(int rule, int year, int feast) throws IllegalArgumentException {
        needRange(rule, 0, 2);
        needRange(year, Feasts.FIRST_YEAR, Feasts.LAST_YEAR);
        needRange(feast, 0, 6);
        return Feasts.dayOfFeast(rule, year, feast);
    }

    public long nextFeast(int rule, int feast, long day) throws IllegalArgumentException, IllegalStateException {
        needRange(rule, 0, 2);
        needRange(feast, 0, 6);
        needDay(day);
        dates.find(0, day);
        long found = Feasts.firstBehind(rule, feast, day, dates.yearFound());
        needDay(found);
        return found;
    }

    // ---- rounds

    public int position(int round, long day) throws IllegalArgumentException, IllegalStateException {
        needRange(round, 0, 9);
        needDay(day);
        return Rounds.placeOn(round, day);
    }

    public long again(int rounds) throws IllegalArgumentException {
        needRange(rounds, 0, 1023);
        return Rounds.commonLength(rounds);
    }

    public long meet(long day, int round, int position, int other, int otherPosition)
            throws IllegalStateException, IllegalArgumentException, NoSuchElementException {
        needDay(day);
        needPosition(round, position);
        needPosition(other, otherPosition);
        long found = Rounds.firstMeeting(day, round, position, other, otherPosition);
        if (found == NO_DAY) {
            throw new NoSuchElementException("the rounds never meet so");
        }
        needDay(found);
        return found;
    }

    public int longCount(long day, int place) throws IllegalStateException, IllegalArgumentException {
        needDay(day);
        needRange(place, 0, 4);
        return Rounds.longCountPlace(day, place);
    }

    // ---- means

    public long moon(long moon) throws ArithmeticException {
        if (moon > Long.MAX_VALUE / Sky.MOON_PARTS || moon < Long.MIN_VALUE / Sky.MOON_PARTS) {
            throw new ArithmeticException("the moon's parts are no long");
        }
        return Sky.moonDay(moon);
    }

    public long drift(int calendar, boolean isBelow) throws IndexOutOfBoundsException, IllegalArgumentException {
        needCalendar(calendar);
        needMean(calendar);
        return Means.driftPart(calendar, isBelow);
    }

    public int far(int calendar) throws IndexOutOfBoundsException, NumberFormatException, IllegalArgumentException {
        needCalendar(calendar);
        if (!tape.isDigits(MOST_DIGITS)) {
            throw new NumberFormatException("the tape is no row of 1 to 60 digits");
        }
        needMean(calendar);
        tape.scale(Means.above(calendar), Means.below(calendar));
        return tape.size();
    }

    // ---- the tape

    public int type(long signs) throws IllegalArgumentException, IllegalStateException {
        if (!Tape.areSigns(signs)) {
            throw new IllegalArgumentException("a byte is no sign");
        }
        if (tape.size() + Tape.countSigns(signs) > Tape.MOST) {
            throw new IllegalStateException("the tape would be too long");
        }
        tape.addSigns(signs);
        return tape.size();
    }

    public int wipe() {
        int before = tape.size();
        tape.clear();
        return before;
    }

    public int signAt(int index) throws IndexOutOfBoundsException {
        if (index < 0 || index >= tape.size()) {
            throw new IndexOutOfBoundsException("there is no such sign");
        }
        return tape.sign(index);
    }

    public int fault() {
        return reading.scan(tape);
    }

    public long read() throws NumberFormatException, NoSuchElementException, IllegalStateException {
        if (reading.scan(tape) != NONE) {
            throw new NumberFormatException("the tape is no date");
        }
        long found = dates.dayWith(reading.calendar, reading.year, reading.month, reading.day);
        if (found == NO_DAY) {
            throw new NoSuchElementException("the date is not lawful");
        }
        needDay(found);
        return found;
    }

    public int write(int calendar, long day) throws IndexOutOfBoundsException, IllegalStateException {
        needCalendar(calendar);
        needDay(day);
        dates.find(calendar, day);
        tape.clear();
        tape.addWord(calendar);
        tape.add(' ');
        tape.addNumber(dates.yearFound());
        tape.add('-');
        tape.addNumber(dates.monthFound());
        tape.add('-');
        tape.addNumber(dates.dateFound());
        return tape.size();
    }

    public int table(int calendar, int other, int year, int month)
            throws IndexOutOfBoundsException, IllegalArgumentException, IllegalStateException {
        needCalendar(calendar);
        needCalendar(other);
        int index = needMonth(calendar, year, month);
        long first = dates.startOf(index);
        long last = dates.startOf(index + 1) - 1;
        needDay(first);
        needDay(last);
        tape.clear();
        for (long day = first; day <= last; day++) {
            dates.find(calendar, day);
            tape.addNumber(dates.dateFound());
            tape.add(':');
            dates.find(other, day);
            tape.addNumber(dates.monthFound());
            tape.add('.');
            tape.addNumber(dates.dateFound());
            tape.add(Years.weekday(day) == 7 ? ';' : ' ');
        }
        return tape.size();
    }

    // ---- reigns

    public int reign(long first, int name) throws IllegalStateException, IllegalArgumentException {
        needDay(first);
        if (reigns.size() >= Reigns.MOST) {
            throw new IllegalStateException("there are as many reigns as can be");
        }
        if (reigns.begins(first)) {
            throw new IllegalArgumentException("a reign begins on this day");
        }
        reigns.add(first, name);
        return reigns.size();
    }

    public int forgetReign(long day) throws IllegalStateException, NoSuchElementException {
        needDay(day);
        int index = needReign(day);
        int name = reigns.name(index);
        reigns.remove(index);
        return name;
    }

    public long reignAt(long day, int calendar, int what)
            throws IllegalStateException, IndexOutOfBoundsException, IllegalArgumentException, NoSuchElementException {
        needDay(day);
        needCalendar(calendar);
        needRange(what, 0, 3);
        int index = needReign(day);
        long first = reigns.first(index);
        switch (what) {
            case 0: return reigns.name(index);
            case 1: return first;
            case 2: return 1L + dates.yearsBetween(calendar, first, day);
            default: return index + 1 < reigns.size() ? reigns.first(index + 1) - first : NONE;
        }
    }

    // ---- the set

    public int gather(int calendar, int month, int date, long from, long to)
            throws IndexOutOfBoundsException, IllegalStateException, IllegalArgumentException {
        needCalendar(calendar);
        needSpan(from, to);
        if (to - from > LONGEST_SPAN) {
            throw new IllegalArgumentException("the span is too long");
        }
        dates.find(calendar, from);
        int first = dates.yearFound();
        dates.find(calendar, to);
        int last = dates.yearFound();
        int fresh = 0;
        for (int year = first; year <= last; year++) {
            long day = dates.dayWith(calendar, year, month, date);
            if (day >= from && day <= to && !set.has(day)) {
                fresh++;
            }
        }
        if (set.size() + fresh > DaySet.MOST) {
            throw new IllegalStateException("the set would have too many days");
        }
        set.remember();
        for (int year = first; year <= last; year++) {
            long day = dates.dayWith(calendar, year, month, date);
            if (day >= from && day <= to) {
                set.put(day);
            }
        }
        return set.size();
    }

    public int sift(int round, int position) throws IllegalArgumentException {
        needPosition(round, position);
        set.remember();
        set.keep(round, position);
        return set.size();
    }

    public boolean toggle(long day) throws IllegalStateException {
        needDay(day);
        boolean isIn = set.has(day);
        if (!isIn && set.size() >= DaySet.MOST) {
            throw new IllegalStateException("the set is full");
        }
        set.remember();
        if (isIn) {
            set.take(day);
        } else {
            set.put(day);
        }
        return !isIn;
    }

    public long ofSet(long day, int how) throws IllegalArgumentException, NoSuchElementException {
        needRange(how, 0, 2);
        if (how == 0) {
            return set.size();
        }
        // The first place of a day not earlier; the latest day not later is here or one place ahead.
        int place = set.placeOf(day);
        if (how == 2 && !set.has(day)) {
            place--;
        }
        if (place < 0 || place >= set.size()) {
            throw new NoSuchElementException("there is no such day in the set");
        }
        return set.dayAt(place);
    }

    public int undo() throws NoSuchElementException {
        if (set.changes() == 0) {
            throw new NoSuchElementException("there is nothing to undo");
        }
        set.goBack();
        return set.changes();
    }

    // ---- measures

    public double meanYear(int calendar, int from, int years)
            throws IndexOutOfBoundsException, IllegalArgumentException, IllegalStateException {
        needCalendar(calendar);
        needRange(years, 1, 400);
        if (!Years.exists(calendar, from) || Years.counted(calendar, from) + years - 1 > Years.HIGHEST) {
            throw new IllegalArgumentException("there is no such year");
        }
        int first = needYear(calendar, from);
        return (double) dates.daysOf(calendar, first, years) / (double) years;
    }

    public float passed(int calendar, long day) throws IndexOutOfBoundsException, IllegalStateException {
        needCalendar(calendar);
        needDay(day);
        dates.find(calendar, day);
        long first = dates.startOf(0);
        int length = dates.daysOf(calendar, dates.countedFound(), 1);
        return length == 0 ? 0 : (float) (day - first) / (float) length;
    }

    public int errors(long day) throws IllegalStateException {
        needDay(day);
        int wrong = 0;
        for (int calendar = 0; calendar < CALENDARS; calendar++) {
            wrong += dateErrors(calendar, day);
            wrong += yearErrors(calendar, day);
        }
        for (int round = 0; round < Rounds.COUNT; round++) {
            if (Rounds.placeOn(round, day) != Rounds.placeOn(round, day + Rounds.length(round))) {
                wrong++;
            }
        }
        dates.find(0, day);
        int year = dates.yearFound();
        if (year >= Feasts.FIRST_YEAR && year <= Feasts.LAST_YEAR && !Feasts.isEasterSound(year)) {
            wrong++;
        }
        return wrong;
    }

    private int dateErrors(int calendar, long day) {
        int wrong = 0;
        dates.find(calendar, day);
        if (dates.dayWith(calendar, dates.yearFound(), dates.monthFound(), dates.dateFound()) != day) {
            wrong++;
        }
        if (day > FIRST_DAY && !dates.areNeighbours(calendar, day - 1)) {
            wrong++;
        }
        if (day < LAST_DAY && !dates.areNeighbours(calendar, day)) {
            wrong++;
        }
        return wrong;
    }

    private int yearErrors(int calendar, long day) {
        dates.find(calendar, day);
        int year = dates.countedFound();
        long sum = 0;
        for (int index = 0; index < dates.months(); index++) {
            sum += dates.startOf(index + 1) - dates.startOf(index);
        }
        int wrong = sum == dates.daysOf(calendar, year, 1) ? 0 : 1;
        if (calendar != MIXED && dates.startOf(0) + sum != dates.firstOf(calendar, year + 1)) {
            wrong++;
        }
        return wrong;
    }

    // What the calls ask of their arguments.

    private static void needCalendar(int calendar) {
        if (calendar < 0 || calendar >= CALENDARS) {
            throw new IndexOutOfBoundsException("there is no such calendar");
        }
    }

    private static void needDay(long day) {
        if (day < FIRST_DAY || day > LAST_DAY) {
            throw new IllegalStateException("a day is out of the bounds");
        }
    }

    private static void needRange(int number, int low, int high) {
        if (number < low || number > high) {
            throw new IllegalArgumentException("a number is out of range");
        }
    }

    private static void needSpan(long from, long to) {
        needDay(from);
        needDay(to);
        if (to < from) {
            throw new IllegalArgumentException("the span ends ahead of its beginning");
        }
    }

    private static void needPosition(int round, int position) {
        needRange(round, 0, 9);
        needRange(position, 1, Rounds.length(round));
    }

    private static void needMean(int calendar) {
        if (calendar == MIXED) {
            throw new IllegalArgumentException("this calendar has no mean year");
        }
    }

    /** Answers the year as it is counted. */
    private static int needYear(int calendar, int year) {
        if (!Years.exists(calendar, year)) {
            throw new IllegalArgumentException("there is no such year");
        }
        if (!Years.hasBegun(calendar, year)) {
            throw new IllegalStateException("the year has not begun");
        }
        return Years.counted(calendar, year);
    }

    /** Lays out the year and answers the place of the month in it. */
    private int needMonth(int calendar, int year, int month) {
        dates.lay(calendar, needYear(calendar, year));
        int index = dates.indexOf(month);
        if (index == NONE) {
            throw new IllegalArgumentException("the year has no such month");
        }
        return index;
    }

    private int needReign(long day) {
        int index = reigns.indexAt(day);
        if (index == NONE) {
            throw new NoSuchElementException("the day is in no reign");
        }
        return index;
    }

    /**
     * Years, long ones and their first days, and weekdays.
     * The years are counted with a year 0, so that no step has to leap over it.
     */
    private static final class Years {
        static final int LOWEST = -9999;
        static final int HIGHEST = 19999;
        private static final int ISLAMIC_LONG = 11;
        private static final int[] ISLAMIC_RESTS = {
            2, 5, 7, 10, 13, 15, 18, 21, 24, 26, 29,
            2, 5, 7, 10, 13, 16, 18, 21, 24, 26, 29,
            2, 5, 8, 10, 13, 16, 19, 21, 24, 27, 29,
            2, 5, 8, 11, 13, 16, 19, 21, 24, 27, 0};
        private static final int PERSIAN_LONG = 8;
        private static final int[] PERSIAN_RESTS = {1, 5, 9, 13, 17, 22, 26, 30};

        static boolean lacksZero(int calendar) {
            return calendar == JULIAN || calendar == MIXED;
        }

        static boolean exists(int calendar, int year) {
            return year >= LOWEST && year <= HIGHEST && !(year == 0 && lacksZero(calendar));
        }

        static boolean hasBegun(int calendar, int year) {
            return calendar != HEBREW || year >= 1;
        }

        static int counted(int calendar, int year) {
            return lacksZero(calendar) && year < 0 ? year + 1 : year;
        }

        static int named(int calendar, int count) {
            return lacksZero(calendar) && count <= 0 ? count - 1 : count;
        }

        static int lowestCount(int calendar) {
            return calendar == HEBREW ? 1 : counted(calendar, LOWEST);
        }

        static boolean isLong(int calendar, int year) {
            switch (calendar) {
                case 0: return isGregorianLong(year);
                case 1: return isJulianLong(year);
                case 3: case 4: return Math.floorMod(year, 4) == 3;
                case 7: case 8: case 9: case 10:
                    return isAmong(ISLAMIC_RESTS, ISLAMIC_LONG, calendar - 7, Math.floorMod(year, 30));
                case 11: return Math.floorMod(7 * year + 1, 19) < 7;
                case 12: return isAmong(PERSIAN_RESTS, PERSIAN_LONG, 0, Math.floorMod(year, 33));
                case 14: return isGregorianLong(year + 78);
                case 15: return isGregorianLong(year) && Math.floorMod(year, 4000) != 0;
                default: return false;
            }
        }

        static boolean isJulianLong(int year) {
            return Math.floorMod(year, 4) == 0;
        }

        static boolean isGregorianLong(int year) {
            return Math.floorMod(year, 4) == 0 && (Math.floorMod(year, 100) != 0 || Math.floorMod(year, 400) == 0);
        }

        static long first(int calendar, int year, long change) {
            switch (calendar) {
                case 0: return gregorian(year);
                case 1: return julian(year);
                case 2: return mixed(julian(year), gregorian(year), change);
                case 3: return 103605 + 365L * (year - 1) + Math.floorDiv(year, 4);
                case 4: return 2796 + 365L * (year - 1) + Math.floorDiv(year, 4);
                case 5: return -272787 + 365L * (year - 1);
                case 6: return 201443 + 365L * (year - 1);
                case 7: case 8: case 9: case 10: return islamic(calendar, year);
                case 11: return hebrew(year);
                case 12: return persian(year);
                // From March 21 on a year has 286 days: so counted, its long February is no matter.
                case 13: return gregorian(year + 1844) - 286;
                // The 80th day behind January 1 is March 22, or March 21 in a long year.
                case 14: return gregorian(year + 78) + 80;
                case 15: return french(year);
                case 16: return notLater(gregorian(year) + 3, 1);
                case 17: return Sky.sunMonthDay(12L * year);
                default: return Sky.moonDay(Sky.moonOn(Sky.termDay(12L * year)));
            }
        }

        static long gregorian(int year) {
            long ahead = year - 1L;
            return 1 + 365 * ahead + Math.floorDiv(ahead, 4L) - Math.floorDiv(ahead, 100L) + Math.floorDiv(ahead, 400L);
        }

        static long julian(int year) {
            long ahead = year - 1L;
            return -1 + 365 * ahead + Math.floorDiv(ahead, 4L);
        }

        /** A year, or month, of MIXED begins by 1 if this is ahead of the change. */
        static long mixed(long old, long fresh, long change) {
            return old < change ? old : Math.max(fresh, change);
        }

        private static long islamic(int calendar, int year) {
            int ahead = year - 1;
            int longOnes = ISLAMIC_LONG * Math.floorDiv(ahead, 30)
                + countUpTo(ISLAMIC_RESTS, ISLAMIC_LONG, calendar - 7, Math.floorMod(ahead, 30));
            return 227015 + 354L * ahead + longOnes;
        }

        private static long persian(int year) {
            int ahead = year - 1;
            int longOnes = PERSIAN_LONG * Math.floorDiv(ahead, 33)
                + countUpTo(PERSIAN_RESTS, PERSIAN_LONG, 0, Math.floorMod(ahead, 33));
            return 226896 + 365L * ahead + longOnes;
        }

        private static long french(int year) {
            long ahead = year - 1L;
            return 654415 + 365 * ahead + Math.floorDiv(ahead, 4L) - Math.floorDiv(ahead, 100L)
                + Math.floorDiv(ahead, 400L) - Math.floorDiv(ahead, 4000L);
        }

        private static long hebrew(int year) {
            long moons = Math.floorDiv(235L * year - 234, 19L);
            long parts = 5604 + Sky.MOON_PARTS * moons;
            long rest = Math.floorMod(parts, Sky.DAY_PARTS);
            long day = -1373427 + Math.floorDiv(parts, Sky.DAY_PARTS);
            long weekday = Math.floorMod(day, 7L);
            // Not by a call: calls from the face go at most eight deep.
            boolean isLong = Math.floorMod(7 * year + 1, 19) < 7;
            boolean wasLong = Math.floorMod(7 * year - 6, 19) < 7;
            if (rest >= 19440) {
                day++;
            } else if (!isLong && weekday == 2 && rest >= 9924) {
                day += 2;
            } else if (wasLong && weekday == 1 && rest >= 16789) {
                day++;
            }
            weekday = Math.floorMod(day, 7L);
            return weekday == 0 || weekday == 3 || weekday == 5 ? day + 1 : day;
        }

        /** The rests of one calendar are the row-th so many of the numbers. */
        private static boolean isAmong(int[] rests, int many, int row, int rest) {
            for (int i = row * many; i >= 0 && i < row * many + many && i < rests.length; i++) {
                if (rests[i] == rest) {
                    return true;
                }
            }
            return false;
        }

        private static int countUpTo(int[] rests, int many, int row, int rest) {
            int count = 0;
            for (int i = row * many; i >= 0 && i < row * many + many && i < rests.length; i++) {
                if (rests[i] >= 1 && rests[i] <= rest) {
                    count++;
                }
            }
            return count;
        }

        static int weekday(long day) {
            return (int) Math.floorMod(day - 1, 7L) + 1;
        }

        static long notLater(long day, int weekday) {
            return day - Math.floorMod(day - weekday, 7L);
        }

        static long notEarlier(long day, int weekday) {
            return day + Math.floorMod(weekday - day, 7L);
        }
    }

    /** Mean moons, the terms of the sun, and its months. */
    private static final class Sky {
        static final long MOON_PARTS = 765433;
        static final long DAY_PARTS = 25920;

        static long moonDay(long moon) {
            return Math.floorDiv(MOON_PARTS * moon, DAY_PARTS);
        }

        /** The last moon that does not begin later than the day. */
        static long moonOn(long day) {
            return Math.floorDiv(DAY_PARTS * (day + 1) - 1, MOON_PARTS);
        }

        static long termDay(long term) {
            return Math.floorDiv(146097 * term, 4800L);
        }

        /** The least day whose month count is so great, from the document's quotient turned round. */
        static long sunMonthDay(long months) {
            long quarters = -Math.floorDiv(-210389 * months, 1728L);
            return -Math.floorDiv(1 - quarters, 4L) - 1132959;
        }
    }

    /** One year of a calendar laid out in rows, and the date that was found last in it. */
    private static final class Dates {
        static final long FIRST_CHANGE = 500000;
        static final long LAST_CHANGE = 740000;
        /** A year of weeks has the most months, 53, and one place more tells where the last one ends. */
        private static final int ROW = 60;
        private static final int CIVIL_MONTHS = 12;
        private static final int[] CIVIL_AHEAD = {0, 31, 59, 90, 120, 151, 181, 212, 243, 273, 304, 334, 365};

        private long change = 577736;
        private int laidCalendar;
        private int laidYear;
        private int monthCount;
        /** From this day on the numbers of days are told by the later heads. */
        private long turn;
        private final int[] numbers = new int[ROW];
        private final long[] starts = new long[ROW];
        /** The day ahead of that with the number 1, which a month of MIXED can lack. */
        private final long[] heads = new long[ROW];
        private final long[] laterHeads = new long[ROW];
        private int foundIndex;
        private int foundNumber;

        long exchange(long day) {
            long before = change;
            change = day;
            return before;
        }

        long firstOf(int calendar, int year) {
            return Years.first(calendar, year, change);
        }

        int daysOf(int calendar, int year, int years) {
            return (int) (Years.first(calendar, year + years, change) - Years.first(calendar, year, change));
        }

        int yearFound() {
            return Years.named(laidCalendar, laidYear);
        }

        int countedFound() {
            return laidYear;
        }

        int monthFound() {
            return monthNumber(foundIndex);
        }

        int dateFound() {
            return foundNumber;
        }

        int months() {
            return monthCount;
        }

        int monthNumber(int index) {
            return index >= 0 && index < numbers.length ? numbers[index] : NONE;
        }

        /** The first day of a month; with the number of months, the day behind the last one. */
        long startOf(int index) {
            return index >= 0 && index < starts.length ? starts[index] : NO_DAY;
        }

        void lay(int calendar, int year) {
            laidCalendar = calendar;
            laidYear = year;
            turn = calendar == MIXED ? change : NO_DAY;
            boolean isLong = Years.isLong(calendar, year);
            long first = Years.first(calendar, year, change);
            int length = (int) (Years.first(calendar, year + 1, change) - first);
            switch (calendar) {
                case 0: case 1: layCivil(first, isLong); break;
                case 2: layMixed(year); break;
                case 16: layWeeks(first, length / 7); break;
                case 17: laySun(year); break;
                case 18: layMoons(year); break;
                default: layByLengths(first, length, isLong);
            }
        }

        private void put(int index, int number, long start) {
            if (index >= 0 && index < ROW) {
                numbers[index] = number;
                starts[index] = start;
                heads[index] = start - 1;
                laterHeads[index] = start - 1;
            }
        }

        private void putHeads(int index, long head, long laterHead) {
            if (index >= 0 && index < ROW) {
                heads[index] = head;
                laterHeads[index] = laterHead;
            }
        }

        private void close(int months, long end) {
            monthCount = months;
            put(months, NONE, end);
        }

        private static int civilAhead(int index, boolean isLong) {
            int days = index >= 0 && index < CIVIL_AHEAD.length ? CIVIL_AHEAD[index] : 0;
            return isLong && index > 1 ? days + 1 : days;
        }

        private void layCivil(long first, boolean isLong) {
            for (int i = 0; i < CIVIL_MONTHS; i++) {
                put(i, i + 1, first + civilAhead(i, isLong));
            }
            close(CIVIL_MONTHS, first + civilAhead(CIVIL_MONTHS, isLong));
        }

        private void layMixed(int year) {
            long old = Years.julian(year);
            long fresh = Years.gregorian(year);
            boolean isOldLong = Years.isJulianLong(year);
            boolean isFreshLong = Years.isGregorianLong(year);
            for (int i = 0; i <= CIVIL_MONTHS; i++) {
                long oldStart = old + civilAhead(i, isOldLong);
                long freshStart = fresh + civilAhead(i, isFreshLong);
                put(i, i + 1, Years.mixed(oldStart, freshStart, change));
                putHeads(i, oldStart - 1, freshStart - 1);
            }
            monthCount = CIVIL_MONTHS;
        }

        private void layWeeks(long first, int weeks) {
            for (int i = 0; i < weeks; i++) {
                put(i, i + 1, first + 7L * i);
            }
            close(weeks, first + 7L * weeks);
        }

        private void laySun(int year) {
            for (int i = 0; i < 12; i++) {
                put(i, i + 1, Sky.sunMonthDay(12L * year + i));
            }
            close(12, Sky.sunMonthDay(12L * year + 12));
        }

        private void layMoons(int year) {
            long moon = Sky.moonOn(Sky.termDay(12L * year));
            int moons = (int) (Sky.moonOn(Sky.termDay(12L * year + 12)) - moon);
            int terms = 0;
            for (int i = 0; i < moons; i++) {
                boolean hasTerm = Sky.termDay(12L * year + terms) < Sky.moonDay(moon + i + 1);
                if (hasTerm) {
                    terms++;
                }
                put(i, hasTerm ? 2 * terms - 1 : 2 * terms, Sky.moonDay(moon + i));
            }
            close(moons, Sky.moonDay(moon + moons));
        }

        private void layByLengths(long first, int length, boolean isLong) {
            int months = monthsByLengths(laidCalendar, isLong);
            long start = first;
            for (int i = 0; i < months; i++) {
                put(i, i + 1, start);
                start += laidCalendar == HEBREW
                    ? hebrewDays(i, length, isLong)
                    : monthDays(laidCalendar, i, length, isLong);
            }
            close(months, start);
        }

        private static int monthsByLengths(int calendar, boolean isLong) {
            switch (calendar) {
                case 3: case 4: case 5: case 6: case 15: return 13;
                case 11: return isLong ? 13 : 12;
                case 13: return 20;
                default: return 12;
            }
        }

        private static int monthDays(int calendar, int index, int length, boolean isLong) {
            switch (calendar) {
                case 3: case 4: case 5: case 6: case 15:
                    return index < 12 ? 30 : isLong ? 6 : 5;
                case 12:
                    return index < 6 ? 31 : index < 11 || isLong ? 30 : 29;
                case 13:
                    return index == 18 ? length - 19 * 19 : 19;
                case 14:
                    return index == 0 ? (isLong ? 31 : 30) : index < 6 ? 31 : 30;
                default:
                    return index % 2 == 0 || index == 11 && isLong ? 30 : 29;
            }
        }

        private static int hebrewDays(int index, int length, boolean isLong) {
            int more = length - (isLong ? 384 : 354);
            if (index == 1 && more == 1) {
                return 30;
            }
            if (index == 2 && more == -1) {
                return 29;
            }
            // The sixth month of a long year has 30 days too, and the turns go on behind it.
            boolean isFull = isLong && index >= 5 ? index % 2 == 1 : index % 2 == 0;
            return isFull ? 30 : 29;
        }

        /** Finds the date of a day, and lays out its year. */
        void find(int calendar, long day) {
            int low = Years.lowestCount(calendar);
            int high = Years.HIGHEST + 1;
            for (int i = 0; i < 20 && high - low > 1; i++) {
                int middle = low + (high - low) / 2;
                if (Years.first(calendar, middle, change) <= day) {
                    low = middle;
                } else {
                    high = middle;
                }
            }
            lay(calendar, low);
            foundIndex = 0;
            for (int i = 1; i < monthCount && i < starts.length; i++) {
                if (starts[i] <= day) {
                    foundIndex = i;
                }
            }
            foundNumber = (int) (day - headOf(foundIndex, day < turn));
        }

        private long headOf(int index, boolean isAhead) {
            if (index < 0 || index >= heads.length || index >= laterHeads.length) {
                return NO_DAY;
            }
            return isAhead ? heads[index] : laterHeads[index];
        }

        /** The place of a month in the year that is laid out, or NONE. */
        int indexOf(int month) {
            int index = latestIndex(month);
            return monthNumber(index) == month ? index : NONE;
        }

        /** The place of the latest month with this number or a lesser one, or NONE. */
        private int latestIndex(int month) {
            int found = NONE;
            for (int i = 0; i < monthCount && i < numbers.length; i++) {
                if (numbers[i] <= month) {
                    found = i;
                }
            }
            return found;
        }

        /** The day with a number in a month of the year that is laid out, or NO_DAY. */
        private long dayIn(int index, int number) {
            if (index < 0 || index >= monthCount || number < 1) {
                return NO_DAY;
            }
            long day = headOf(index, true) + number;
            if (day >= turn) {
                day = headOf(index, false) + number;
                if (day < turn) {
                    return NO_DAY;
                }
            }
            return day >= startOf(index) && day < startOf(index + 1) ? day : NO_DAY;
        }

        private long nearestIn(int index, int number) {
            for (int i = number; i >= 1; i--) {
                long day = dayIn(index, i);
                if (day != NO_DAY) {
                    return day;
                }
            }
            return startOf(index);
        }

        /** The day of a date, or NO_DAY if the date is not lawful. */
        long dayWith(int calendar, int year, int month, int number) {
            if (!Years.exists(calendar, year) || !Years.hasBegun(calendar, year)) {
                return NO_DAY;
            }
            lay(calendar, Years.counted(calendar, year));
            return dayIn(indexOf(month), number);
        }

        /** The day LATER, or NO_DAY if the years are left. */
        long stepped(int calendar, long day, int years, int months) {
            find(calendar, day);
            int index = yearsOn(years);
            if (index != NONE) {
                index = walked(index, months);
            }
            return index == NONE ? NO_DAY : nearestIn(index, foundNumber);
        }

        /** Goes from the month that was found so many years on, lays out the year, and tells the place, or NONE. */
        private int yearsOn(int years) {
            int month = monthFound();
            int goal = laidYear + years;
            if (goal < Years.lowestCount(laidCalendar) || goal > Years.HIGHEST) {
                return NONE;
            }
            lay(laidCalendar, goal);
            return latestIndex(month);
        }

        /** Goes from a month of the year that is laid out so many months on, as yearsOn does by years. */
        private int walked(int index, int months) {
            int place = index + months;
            for (int i = 0; i < 1000 && place >= monthCount; i++) {
                if (laidYear >= Years.HIGHEST) {
                    return NONE;
                }
                place -= monthCount;
                lay(laidCalendar, laidYear + 1);
            }
            for (int i = 0; i < 1000 && place < 0; i++) {
                if (laidYear <= Years.lowestCount(laidCalendar)) {
                    return NONE;
                }
                lay(laidCalendar, laidYear - 1);
                place += monthCount;
            }
            return place;
        }

        int yearDifference(int calendar, long from, long to) {
            find(calendar, from);
            int before = laidYear;
            find(calendar, to);
            return laidYear - before;
        }

        int yearsBetween(int calendar, long from, long to) {
            int years = yearDifference(calendar, from, to);
            return years > 0 && stepped(calendar, from, years, 0) > to ? years - 1 : years;
        }

        /** How many months behind some years; they are less than those of two years of weeks. */
        int monthsBetween(int calendar, long from, long to, int years) {
            find(calendar, from);
            int index = yearsOn(years);
            int months = 0;
            for (int i = 1; i < 120 && index != NONE; i++) {
                index = walked(index, 1);
                if (index == NONE || nearestIn(index, foundNumber) > to) {
                    return months;
                }
                months = i;
            }
            return months;
        }

        /** Whether the date of the day behind a day is the next one behind its date. */
        boolean areNeighbours(int calendar, long day) {
            find(calendar, day);
            int year = laidYear;
            int index = foundIndex;
            int number = foundNumber;
            boolean isLastMonth = index == monthCount - 1;
            boolean isLastDay = !hasBetween(index, number, Integer.MAX_VALUE);
            find(calendar, day + 1);
            if (laidYear == year && foundIndex == index) {
                return foundNumber > number && !hasBetween(index, number, foundNumber);
            }
            boolean isNextMonth = laidYear == year
                ? foundIndex == index + 1
                : laidYear == year + 1 && isLastMonth && foundIndex == 0;
            return isNextMonth && isLastDay && !hasBetween(foundIndex, 0, foundNumber);
        }

        /** Whether a month has a day with a number between two others; no month has one above 31. */
        private boolean hasBetween(int index, int low, int high) {
            for (int i = low + 1; i < high && i <= 31; i++) {
                if (dayIn(index, i) != NO_DAY) {
                    return true;
                }
            }
            return false;
        }
    }

    /** Easter by the three rules, and the feasts that move with it. */
    private static final class Feasts {
        static final int FIRST_YEAR = 1;
        static final int LAST_YEAR = 9999;
        private static final int[] BEHIND = {-46, -7, -2, 0, 39, 49, 60};

        static long dayOfFeast(int rule, int year, int feast) {
            int behind = feast >= 0 && feast < BEHIND.length ? BEHIND[feast] : 0;
            switch (rule) {
                case 0: return byEpact(year) + behind;
                case 1: return byParts(year) + behind;
                default: return byOldMoon(year) + behind;
            }
        }

        /** The first feast that is later than a day of a year of 0, or NO_DAY. */
        static long firstBehind(int rule, int feast, long day, int year) {
            // A feast of the rule 2 can be some months off its year, so the search begins a year ahead.
            int from = Math.max(FIRST_YEAR, year - 1);
            for (int i = from; i <= from + 3 && i <= LAST_YEAR; i++) {
                long found = dayOfFeast(rule, i, feast);
                if (found > day) {
                    return found;
                }
            }
            return NO_DAY;
        }

        private static long april19(int year) {
            return Years.gregorian(year) + (Years.isGregorianLong(year) ? 109 : 108);
        }

        private static long oldApril19(int year) {
            return Years.julian(year) + (Years.isJulianLong(year) ? 109 : 108);
        }

        private static long byEpact(int year) {
            int a = Math.floorMod(year, 19);
            int c = Math.floorDiv(year, 100) + 1;
            int e = Math.floorMod(14 + 11 * a - Math.floorDiv(3 * c, 4) + Math.floorDiv(5 + 8 * c, 25), 30);
            if (e == 0 || e == 1 && a > 10) {
                e++;
            }
            return Years.notEarlier(april19(year) - e + 1, 7);
        }

        private static long byOldMoon(int year) {
            int e = Math.floorMod(14 + 11 * Math.floorMod(year, 19), 30);
            return Years.notEarlier(oldApril19(year) - e + 1, 7);
        }

        private static long byParts(int year) {
            int a = Math.floorMod(year, 19);
            int b = Math.floorDiv(year, 100);
            int c = Math.floorMod(year, 100);
            int d = Math.floorDiv(b, 4);
            int e = Math.floorMod(b, 4);
            int f = Math.floorDiv(b + 8, 25);
            int g = Math.floorDiv(b - f + 1, 3);
            int h = Math.floorMod(19 * a + b - d - g + 15, 30);
            int i = Math.floorDiv(c, 4);
            int k = Math.floorMod(c, 4);
            int l = Math.floorMod(32 + 2 * e + 2 * i - h - k, 7);
            int m = Math.floorDiv(a + 11 * h + 22 * l, 451);
            int n = h + l - 7 * m + 114;
            int month = Math.floorDiv(n, 31);
            int date = Math.floorMod(n, 31) + 1;
            // April 19 less 49 days is March 1, and the month is March or April.
            long march = april19(year) - 49;
            return march + (month == 4 ? 31 : 0) + date - 1;
        }

        /** Whether the rules 0 and 1 agree, and each Easter is a Sunday from March 22 to April 25. */
        static boolean isEasterSound(int year) {
            return byEpact(year) == byParts(year)
                && isEasterDay(byEpact(year) - april19(year), byEpact(year))
                && isEasterDay(byOldMoon(year) - oldApril19(year), byOldMoon(year));
        }

        private static boolean isEasterDay(long behindApril19, long day) {
            return behindApril19 >= -28 && behindApril19 <= 6 && Years.weekday(day) == 7;
        }
    }

    /** Rounds of days, where they meet, and the long count. */
    private static final class Rounds {
        static final int COUNT = 10;
        private static final int[] LENGTHS = {7, 13, 20, 365, 9, 6, 7, 210, 5, 60};
        private static final int[] BEGINNINGS =
            {1, -1137145, -1137161, -1137490, -1137150, 37, 37, -1721279, -1721279, 45};

        static int length(int round) {
            return round >= 0 && round < LENGTHS.length ? LENGTHS[round] : 0;
        }

        static int placeOn(int round, long day) {
            int beginning = round >= 0 && round < BEGINNINGS.length ? BEGINNINGS[round] : 0;
            long length = length(round);
            return length > 0 ? (int) Math.floorMod(day - beginning, length) + 1 : NONE;
        }

        static long commonLength(int rounds) {
            long common = 1;
            for (int round = 0; round < COUNT; round++) {
                if ((rounds >> round & 1) == 1) {
                    long divisor = Means.greatestDivisor(common, length(round));
                    common = divisor > 0 ? common / divisor * length(round) : common;
                }
            }
            return common;
        }

        static long firstMeeting(long day, int round, int position, int other, int otherPosition) {
            long length = length(round);
            if (length <= 0) {
                return NO_DAY;
            }
            long found = day + Math.floorMod((long) position - placeOn(round, day), length);
            for (int i = 0; i < length(other); i++) {
                if (placeOn(other, found) == otherPosition) {
                    return found;
                }
                found += length;
            }
            return NO_DAY;
        }

        static int longCountPlace(long day, int place) {
            long n = day + 1137142;
            switch (place) {
                case 0: return (int) Math.floorMod(n, 20L);
                case 1: return (int) Math.floorMod(Math.floorDiv(n, 20L), 18L);
                case 2: return (int) Math.floorMod(Math.floorDiv(n, 360L), 20L);
                case 3: return (int) Math.floorMod(Math.floorDiv(n, 7200L), 20L);
                default: return (int) Math.floorDiv(n, 144000L);
            }
        }
    }

    /** The mean lengths of years, as fractions; MIXED has none. */
    private static final class Means {
        private static final int[] ABOVE = {146097, 1461, 0, 1461, 1461, 365, 365, 10631, 10631, 10631, 10631,
            179876755, 12053, 146097, 146097, 1460969, 146097, 210389, 146097};
        private static final int[] BELOW = {400, 4, 1, 4, 4, 1, 1, 30, 30, 30, 30,
            492480, 33, 400, 400, 4000, 400, 576, 400};

        static long above(int calendar) {
            return calendar >= 0 && calendar < ABOVE.length ? ABOVE[calendar] : 0;
        }

        static long below(int calendar) {
            return calendar >= 0 && calendar < BELOW.length ? BELOW[calendar] : 1;
        }

        /** Above or below the line of 1000 times the mean less 3652422 / 10000. */
        static long driftPart(int calendar, boolean isBelow) {
            long over = 10000 * above(calendar) - 3652422 * below(calendar);
            long under = 10 * below(calendar);
            long divisor = greatestDivisor(Math.abs(over), under);
            if (divisor <= 0) {
                return 0;
            }
            return isBelow ? under / divisor : over / divisor;
        }

        static long greatestDivisor(long one, long other) {
            long a = one;
            long b = other;
            // Each two turns halve the numbers, so a long needs less than 128.
            for (int i = 0; i < 128 && b != 0; i++) {
                long rest = a % b;
                a = b;
                b = rest;
            }
            return a;
        }
    }

    /** A row of signs, and what is written to it. */
    private static final class Tape {
        static final int MOST = 2000;
        /** For a number of 60 digits times one of 9. */
        private static final int WORK = 72;
        private static final int LOWEST_SIGN = 32;
        private static final int HIGHEST_SIGN = 126;

        private final char[] signs = new char[MOST];
        private final int[] work = new int[WORK];
        private int length;

        int size() {
            return length;
        }

        void clear() {
            length = 0;
        }

        int sign(int index) {
            return index >= 0 && index < length && index < MOST ? signs[index] : NONE;
        }

        boolean isDigit(int index) {
            int sign = sign(index);
            return sign >= '0' && sign <= '9';
        }

        void add(int sign) {
            if (length >= 0 && length < MOST) {
                signs[length] = (char) sign;
                length++;
            }
        }

        void addNumber(int number) {
            long rest = number;
            if (rest < 0) {
                add('-');
                rest = -rest;
            }
            long unit = 1;
            for (int i = 0; i < 10 && unit > 0 && rest / unit >= 10; i++) {
                unit *= 10;
            }
            for (int i = 0; i < 11 && unit > 0; i++) {
                add((int) ('0' + rest / unit % 10));
                unit /= 10;
            }
        }

        void addWord(int calendar) {
            for (int i = 0; i < Reading.WORD; i++) {
                add(Reading.letter(calendar, i));
            }
        }

        static int byteOf(long signs, int index) {
            return (int) (signs >>> 8 * (7 - index)) & 255;
        }

        static boolean areSigns(long signs) {
            for (int i = 0; i < 8; i++) {
                int sign = byteOf(signs, i);
                if (sign != 0 && (sign < LOWEST_SIGN || sign > HIGHEST_SIGN)) {
                    return false;
                }
            }
            return true;
        }

        static int countSigns(long signs) {
            int count = 0;
            for (int i = 0; i < 8; i++) {
                if (byteOf(signs, i) != 0) {
                    count++;
                }
            }
            return count;
        }

        void addSigns(long signs) {
            for (int i = 0; i < 8; i++) {
                int sign = byteOf(signs, i);
                if (sign != 0) {
                    add(sign);
                }
            }
        }

        boolean isDigits(int most) {
            if (length < 1 || length > most) {
                return false;
            }
            for (int i = 0; i < length; i++) {
                if (!isDigit(i)) {
                    return false;
                }
            }
            return true;
        }

        /** Makes the number on the tape so many times as great, and divides it, rounded down. */
        void scale(long above, long below) {
            multiply(above);
            divide(below);
            clear();
            for (int i = 0; i < WORK; i++) {
                if (length > 0 || work[i] != 0 || i == WORK - 1) {
                    add('0' + work[i]);
                }
            }
        }

        private void multiply(long factor) {
            long carry = 0;
            for (int i = 1; i <= WORK; i++) {
                int digit = i <= length ? sign(length - i) - '0' : 0;
                carry += digit * factor;
                work[WORK - i] = (int) (carry % 10);
                carry /= 10;
            }
        }

        private void divide(long divisor) {
            if (divisor <= 0) {
                return;
            }
            long rest = 0;
            for (int i = 0; i < WORK; i++) {
                rest = rest * 10 + work[i];
                work[i] = (int) (rest / divisor);
                rest %= divisor;
            }
        }
    }

    /** The tape read as a date: the parts of the latest date, and where it could not go on. */
    private static final class Reading {
        static final int WORD = 3;
        private static final int MOST_DIGITS = 5;
        private static final String WORDS = "grejulmixcopethegyarmisaisbiscisdhebperbahindfreweesunmoo";

        private int calendar;
        private int year;
        private int month;
        private int day;
        private int place;

        static int letter(int calendar, int index) {
            int at = calendar * WORD + index;
            return at >= 0 && at < WORDS.length() ? WORDS.charAt(at) : NONE;
        }

        /** Answers the fault, or NONE. A part that can't stand is not gone over, so its place is the fault. */
        int scan(Tape tape) {
            place = 0;
            return isDate(tape) ? NONE : place;
        }

        private boolean isDate(Tape tape) {
            skipBlanks(tape);
            calendar = word(tape);
            if (calendar == NONE || tape.sign(place) != ' ') {
                return false;
            }
            skipBlanks(tape);
            boolean isMinus = skipMinus(tape);
            year = number(tape);
            if (year == NONE || !skipMinus(tape)) {
                return false;
            }
            if (isMinus) {
                year = -year;
            }
            month = number(tape);
            if (month == NONE || !skipMinus(tape)) {
                return false;
            }
            day = number(tape);
            return day != NONE && place >= tape.size();
        }

        private void skipBlanks(Tape tape) {
            for (int i = 0; i < Tape.MOST && tape.sign(place) == ' '; i++) {
                place++;
            }
        }

        private boolean skipMinus(Tape tape) {
            if (tape.sign(place) != '-') {
                return false;
            }
            place++;
            skipBlanks(tape);
            return true;
        }

        private int word(Tape tape) {
            int letters = 0;
            while (letters < Tape.MOST && isLetter(tape.sign(place + letters))) {
                letters++;
            }
            if (letters != WORD) {
                return NONE;
            }
            for (int i = 0; i < CALENDARS; i++) {
                if (tape.sign(place) == letter(i, 0) && tape.sign(place + 1) == letter(i, 1)
                        && tape.sign(place + 2) == letter(i, 2)) {
                    place += WORD;
                    return i;
                }
            }
            return NONE;
        }

        private static boolean isLetter(int sign) {
            return sign >= 'a' && sign <= 'z';
        }

        /** Goes over a number and the blanks behind it, and answers it, or NONE. */
        private int number(Tape tape) {
            int digits = 0;
            while (digits < Tape.MOST && tape.isDigit(place + digits)) {
                digits++;
            }
            if (digits < 1 || digits > MOST_DIGITS) {
                return NONE;
            }
            int value = 0;
            for (int i = 0; i < digits; i++) {
                value = 10 * value + tape.sign(place + i) - '0';
            }
            place += digits;
            skipBlanks(tape);
            return value;
        }
    }

    /** Reigns in the order of their first days. */
    private static final class Reigns {
        static final int MOST = 20;

        private final long[] firsts = new long[MOST];
        private final int[] names = new int[MOST];
        private int count;

        int size() {
            return count;
        }

        long first(int index) {
            return index >= 0 && index < MOST ? firsts[index] : NO_DAY;
        }

        int name(int index) {
            return index >= 0 && index < MOST ? names[index] : NONE;
        }

        /** The place of the reign in which a day is, or NONE. */
        int indexAt(long day) {
            int found = NONE;
            for (int i = 0; i < count && i < MOST; i++) {
                if (firsts[i] <= day) {
                    found = i;
                }
            }
            return found;
        }

        boolean begins(long day) {
            int index = indexAt(day);
            return index != NONE && first(index) == day;
        }

        void add(long first, int name) {
            if (count >= MOST) {
                return;
            }
            int index = indexAt(first) + 1;
            for (int i = count; i > index && i > 0; i--) {
                set(i, first(i - 1), name(i - 1));
            }
            set(index, first, name);
            count++;
        }

        void remove(int index) {
            if (index < 0 || index >= count) {
                return;
            }
            count--;
            for (int i = index; i < count; i++) {
                set(i, first(i + 1), name(i + 1));
            }
        }

        private void set(int index, long first, int name) {
            if (index >= 0 && index < MOST) {
                firsts[index] = first;
                names[index] = name;
            }
        }
    }

    /** Days in their order, and what the set was ahead of its latest changes. */
    private static final class DaySet {
        static final int MOST = 500;
        private static final int MOST_CHANGES = 10;

        private final long[] days = new long[MOST];
        private int count;
        /** The sets before, in a ring: so a change needs no new row. */
        private final long[] past = new long[MOST_CHANGES * MOST];
        private final int[] pastCounts = new int[MOST_CHANGES];
        private int changes;
        private int next;

        int size() {
            return count;
        }

        int changes() {
            return changes;
        }

        long dayAt(int place) {
            return place >= 0 && place < MOST ? days[place] : NO_DAY;
        }

        /** How many days are earlier. */
        int placeOf(long day) {
            int low = 0;
            int high = count;
            for (int i = 0; i < 20 && low < high; i++) {
                int middle = (low + high) / 2;
                if (dayAt(middle) < day) {
                    low = middle + 1;
                } else {
                    high = middle;
                }
            }
            return low;
        }

        boolean has(long day) {
            int place = placeOf(day);
            return place < count && dayAt(place) == day;
        }

        void put(long day) {
            if (has(day) || count >= MOST) {
                return;
            }
            int place = placeOf(day);
            for (int i = count; i > place && i > 0 && i < MOST; i--) {
                days[i] = days[i - 1];
            }
            if (place >= 0 && place < MOST) {
                days[place] = day;
                count++;
            }
        }

        void take(long day) {
            if (!has(day)) {
                return;
            }
            count--;
            for (int i = placeOf(day); i >= 0 && i < count && i + 1 < MOST; i++) {
                days[i] = days[i + 1];
            }
        }

        void keep(int round, int position) {
            int kept = 0;
            for (int i = 0; i < count && i < MOST; i++) {
                if (Rounds.placeOn(round, days[i]) == position && kept >= 0 && kept < MOST) {
                    days[kept] = days[i];
                    kept++;
                }
            }
            count = kept;
        }

        void remember() {
            int start = next * MOST;
            for (int i = 0; i < count && i < MOST && start >= 0 && start + i < past.length; i++) {
                past[start + i] = days[i];
            }
            if (next >= 0 && next < MOST_CHANGES) {
                pastCounts[next] = count;
            }
            next = next + 1 >= MOST_CHANGES ? 0 : next + 1;
            changes = Math.min(changes + 1, MOST_CHANGES);
        }

        void goBack() {
            if (changes < 1) {
                return;
            }
            next = next < 1 ? MOST_CHANGES - 1 : next - 1;
            changes--;
            if (next >= 0 && next < MOST_CHANGES) {
                count = pastCounts[next];
            }
            int start = next * MOST;
            for (int i = 0; i < count && i < MOST && start >= 0 && start + i < past.length; i++) {
                days[i] = past[start + i];
            }
        }
    }
}
