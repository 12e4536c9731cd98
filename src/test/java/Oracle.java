import java.util.Arrays;

/** The calendars once more, as plainly as the document tells them: each month of all years in one long row. */
final class Oracle {
    static final int CALENDARS = 19;
    static final long NO_DAY = Long.MAX_VALUE;
    private static final Oracle[] MADE = new Oracle[CALENDARS];

    final int calendar;
    final long change;
    int size = 0;
    int[] years = new int[1 << 12];
    int[] numbers = new int[1 << 12];
    long[] starts = new long[1 << 12];

    private Oracle(int calendar, long change) {
        this.calendar = calendar;
        this.change = change;
        if (calendar == 2) {
            makeMixed();
        } else if (calendar == 16) {
            makeWeeks();
        } else if (calendar == 17) {
            makeSun();
        } else if (calendar == 18) {
            makeMoons();
        } else {
            makeByLengths();
        }
    }

    static Oracle of(int calendar) {
        if (MADE[calendar] == null) {
            MADE[calendar] = new Oracle(calendar, 577736);
        }
        return MADE[calendar];
    }

    static Oracle mixed(long change) {
        return new Oracle(2, change);
    }

    private void add(int year, int number, long start) {
        if (size == starts.length) {
            years = Arrays.copyOf(years, 2 * size);
            numbers = Arrays.copyOf(numbers, 2 * size);
            starts = Arrays.copyOf(starts, 2 * size);
        }
        years[size] = year;
        numbers[size] = number;
        starts[size] = start;
        size++;
    }

    /** The years from -9999 to 20000; the last one only tells where the one ahead ends. */
    private void makeByLengths() {
        long first = firstOfYearOne();
        long lowest = first;
        int from = calendar == 11 ? 1 : calendar == 1 ? -9998 : -9999;
        for (int z = 0; z >= from; z--) {
            lowest -= sum(lengths(z));
        }
        long start = lowest;
        for (int z = from; z <= 20000; z++) {
            int[] lengths = lengths(z);
            for (int i = 0; i < lengths.length; i++) {
                add(calendar == 1 && z <= 0 ? z - 1 : z, i + 1, start);
                start += lengths[i];
            }
        }
    }

    private long firstOfYearOne() {
        switch (calendar) {
            case 0: return 1;
            case 1: return -1;
            case 3: return 103605;
            case 4: return 2796;
            case 5: return -272787;
            case 6: return 201443;
            case 11: return hebrewFirst(1);
            case 12: return 226896;
            case 13: return gregorian(1844, 3, 21);
            case 14: return gregorian(79, 3, 22);
            case 15: return 654415;
            default: return 227015;
        }
    }

    private static long sum(int[] row) {
        long sum = 0;
        for (int n : row) {
            sum += n;
        }
        return sum;
    }

    static boolean isGregorianLong(int y) {
        return Math.floorMod(y, 400) == 0 || Math.floorMod(y, 4) == 0 && Math.floorMod(y, 100) != 0;
    }

    static long gregorian(int y, int m, int d) {
        return java.time.LocalDate.of(y, m, d).toEpochDay() + 719163;
    }

    private int[] lengths(int y) {
        switch (calendar) {
            case 0: return civil(isGregorianLong(y));
            case 1: return civil(Math.floorMod(y, 4) == 0);
            case 3: case 4: return thirties(Math.floorMod(y, 4) == 3 ? 6 : 5);
            case 5: case 6: return thirties(5);
            case 11: return hebrew(y);
            case 12: return persian(isIn(Math.floorMod(y, 33), 1, 5, 9, 13, 17, 22, 26, 30));
            case 13: return bahai(y);
            case 14:
                int first = isGregorianLong(y + 78) ? 31 : 30;
                return new int[] {first, 31, 31, 31, 31, 31, 30, 30, 30, 30, 30, 30};
            case 15: return thirties(isGregorianLong(y) && Math.floorMod(y, 4000) != 0 ? 6 : 5);
            default: return islamic(isIslamicLong(Math.floorMod(y, 30)));
        }
    }

    private static int[] civil(boolean isLong) {
        return new int[] {31, isLong ? 29 : 28, 31, 30, 31, 30, 31, 31, 30, 31, 30, 31};
    }

    private static int[] thirties(int last) {
        return new int[] {30, 30, 30, 30, 30, 30, 30, 30, 30, 30, 30, 30, last};
    }

    private static int[] persian(boolean isLong) {
        return new int[] {31, 31, 31, 31, 31, 31, 30, 30, 30, 30, 30, isLong ? 30 : 29};
    }

    private static int[] islamic(boolean isLong) {
        return new int[] {30, 29, 30, 29, 30, 29, 30, 29, 30, 29, 30, isLong ? 30 : 29};
    }

    private boolean isIslamicLong(int rest) {
        switch (calendar) {
            case 7: return isIn(rest, 2, 5, 7, 10, 13, 15, 18, 21, 24, 26, 29);
            case 8: return isIn(rest, 2, 5, 7, 10, 13, 16, 18, 21, 24, 26, 29);
            case 9: return isIn(rest, 2, 5, 8, 10, 13, 16, 19, 21, 24, 27, 29);
            default: return isIn(rest, 2, 5, 8, 11, 13, 16, 19, 21, 24, 27, 0);
        }
    }

    private static boolean isIn(int rest, int... rests) {
        for (int one : rests) {
            if (one == rest) {
                return true;
            }
        }
        return false;
    }

    private static int[] bahai(int y) {
        int[] lengths = new int[20];
        Arrays.fill(lengths, 19);
        lengths[18] = (int) (gregorian(y + 1844, 3, 21) - gregorian(y + 1843, 3, 21)) - 19 * 19;
        return lengths;
    }

    private static int[] hebrew(int y) {
        boolean isLong = Math.floorMod(7L * y + 1, 19) < 7;
        int[] lengths = isLong
            ? new int[] {30, 29, 30, 29, 30, 30, 29, 30, 29, 30, 29, 30, 29}
            : new int[] {30, 29, 30, 29, 30, 29, 30, 29, 30, 29, 30, 29};
        long days = hebrewFirst(y + 1) - hebrewFirst(y);
        if (days == sum(lengths) + 1) {
            lengths[1]++;
        } else if (days == sum(lengths) - 1) {
            lengths[2]--;
        }
        return lengths;
    }

    /** By another way than the document's four delays: from the lengths of the years beside it. */
    private static long hebrewFirst(int y) {
        long before = hebrewElapsed(y - 1);
        long here = hebrewElapsed(y);
        long behind = hebrewElapsed(y + 1);
        long more = behind - here == 356 ? 2 : here - before == 382 ? 1 : 0;
        return -1373427 + here + more;
    }

    private static long hebrewElapsed(int y) {
        long months = Math.floorDiv(235L * y - 234, 19);
        long parts = 12084 + 13753 * months;
        long days = 29 * months + Math.floorDiv(parts, 25920);
        return Math.floorMod(3 * (days + 1), 7) < 3 ? days + 1 : days;
    }

    private void makeWeeks() {
        long monday = 1;
        while (monday > gregorian(-9999, 1, 4)) {
            monday -= 7;
        }
        int week = 1;
        int year = -9999;
        for (; year < 20001; monday += 7) {
            add(year, week, monday);
            week++;
            if (monday + 7 > gregorian(year + 1, 1, 4) - 7 && monday + 7 <= gregorian(year + 1, 1, 4)) {
                year++;
                week = 1;
            }
        }
    }

    private void makeSun() {
        long last = Long.MIN_VALUE;
        for (long d = -4800000; d < 6200000; d++) {
            long count = Math.floorDiv((4 * (d + 1132959) + 1) * 1728, 210389L);
            if (count != last && count >= -9999 * 12L && count < 20001 * 12L) {
                add((int) Math.floorDiv(count, 12L), (int) Math.floorMod(count, 12L) + 1, d);
            }
            last = count;
        }
    }

    private void makeMoons() {
        long term = -9999 * 12L;
        long k = Math.floorDiv(146097 * term, 4800L) * 25920 / 765433 - 3;
        while (moonDay(k + 1) <= termDay(term)) {
            k++;
        }
        int lastYear = 0;
        int lastNumber = 0;
        for (; term < 20001 * 12L; k++) {
            if (termDay(term) >= moonDay(k) && termDay(term) < moonDay(k + 1)) {
                lastYear = (int) Math.floorDiv(term, 12L);
                lastNumber = 2 * ((int) Math.floorMod(term, 12L) + 1) - 1;
                term++;
            } else {
                lastNumber++;
            }
            add(lastYear, lastNumber, moonDay(k));
        }
    }

    private static long moonDay(long k) {
        return Math.floorDiv(765433 * k, 25920L);
    }

    private static long termDay(long j) {
        return Math.floorDiv(146097 * j, 4800L);
    }

    private void makeMixed() {
        Oracle old = of(1);
        Oracle fresh = of(0);
        int i = 0;
        int k = 0;
        int lastYear = 0;
        int lastNumber = 0;
        long end = fresh.starts[fresh.size - 1];
        for (long d = old.starts[0]; d < end; d++) {
            while (i + 1 < old.size && old.starts[i + 1] <= d) {
                i++;
            }
            while (k + 1 < fresh.size && fresh.starts[k + 1] <= d) {
                k++;
            }
            int year = d < change ? old.years[i] : fresh.years[k];
            int number = d < change ? old.numbers[i] : fresh.numbers[k];
            if (year != lastYear || number != lastNumber) {
                add(year, number, d);
            }
            lastYear = year;
            lastNumber = number;
        }
    }

    /** The place in the row of the month that has the day. */
    int at(long day) {
        int found = Arrays.binarySearch(starts, 0, size, day);
        return found >= 0 ? found : -found - 2;
    }

    int dateOf(int at, long day) {
        if (calendar == 2) {
            Oracle part = of(day < change ? 1 : 0);
            return (int) (day - part.starts[part.at(day)]) + 1;
        }
        return (int) (day - starts[at]) + 1;
    }

    int length(int at) {
        return (int) (starts[at + 1] - starts[at]);
    }

    /** The first place of a year, or -1. */
    int firstOf(int year) {
        int found = Arrays.binarySearch(years, 0, size, year);
        if (found < 0) {
            return -1;
        }
        while (found > 0 && years[found - 1] == year) {
            found--;
        }
        return found;
    }

    int countOf(int year) {
        int first = firstOf(year);
        int count = 0;
        while (first + count < size && years[first + count] == year) {
            count++;
        }
        return count;
    }

    long dayOf(int year, int month, int date) {
        int first = year < -9999 || year > 19999 ? -1 : firstOf(year);
        if (first < 0) {
            return NO_DAY;
        }
        for (int at = first; at < size && years[at] == year; at++) {
            if (numbers[at] == month) {
                return dayAt(at, date);
            }
        }
        return NO_DAY;
    }

    private long dayAt(int at, int date) {
        for (long day = starts[at]; day < starts[at + 1]; day++) {
            if (dateOf(at, day) == date) {
                return day;
            }
        }
        return NO_DAY;
    }

    /** The day LATER, or NO_DAY beyond the years; the steps are made one by one. */
    long later(long day, int more, int months) {
        int at = at(day);
        int date = dateOf(at, day);
        int year = years[at];
        for (int i = 0; i < Math.abs(more); i++) {
            year += more > 0 ? 1 : -1;
            if (year == 0 && (calendar == 1 || calendar == 2)) {
                year += more > 0 ? 1 : -1;
            }
        }
        if (year < -9999 || year > 19999 || calendar == 11 && year < 1) {
            return NO_DAY;
        }
        int there = firstOf(year);
        while (there + 1 < size && years[there + 1] == year && numbers[there + 1] <= numbers[at]) {
            there++;
        }
        there += months;
        if (there < 0 || there >= size || years[there] > 19999) {
            return NO_DAY;
        }
        for (int i = date; i >= 1; i--) {
            long found = dayAt(there, i);
            if (found != NO_DAY) {
                return found;
            }
        }
        return starts[there];
    }
}
