import java.util.NoSuchElementException;

/** What the tests of the calendars ask of years and months. */
final class EdgeYears {
    private EdgeYears() {
    }

    /** The length of some years, and the sum of their months. */
    static void length(int calendar, int due, int... years) {
        for (int year : years) {
            Edge.is("the year " + year + " of " + calendar, due, x -> x.yearLength(calendar, year));
            Edge.is("the months of " + year + " of " + calendar, due, x -> sumOfMonths(x, calendar, year));
        }
    }

    private static int sumOfMonths(Manydays x, int calendar, int year) {
        int sum = 0;
        try {
            for (int i = 0; i < 60; i++) {
                sum += x.monthLength(calendar, year, x.monthAt(calendar, year, i));
            }
        } catch (NoSuchElementException e) {
            return sum;
        }
        return -1;
    }

    static void month(int calendar, int year, int month, int due) {
        Edge.is("the month " + month + " of " + year + " of " + calendar, due, x -> x.monthLength(calendar, year, month));
    }

    /** The lengths of all months of a year whose numbers go without a gap. */
    static void months(int calendar, int year, int... due) {
        for (int i = 0; i < due.length; i++) {
            int index = i;
            Edge.is("the month " + i + " of " + year + " of " + calendar, i + 1, x -> x.monthAt(calendar, year, index));
            month(calendar, year, i + 1, due[i]);
        }
        Edge.refuses("a month more of " + calendar, Edge.NO_SUCH, x -> x.monthAt(calendar, year, due.length));
        Edge.refuses("the month " + (due.length + 1) + " of " + calendar, Edge.ARGUMENT,
            x -> x.monthLength(calendar, year, due.length + 1));
    }

    static void first(int calendar, int year, long due) {
        Edge.is("the first day of " + year + " of " + calendar, due, x -> x.newYear(calendar, year));
    }

    static boolean isAmong(int[] row, int number) {
        for (int one : row) {
            if (one == number) {
                return true;
            }
        }
        return false;
    }
}
