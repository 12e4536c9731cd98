/** Promises 41 to 43. */
final class MeasuresTest {
    private static final Class<IndexOutOfBoundsException> INDEX = IndexOutOfBoundsException.class;
    private static final Class<IllegalArgumentException> ARGUMENT = IllegalArgumentException.class;
    private static final Class<IllegalStateException> STATE = IllegalStateException.class;

    private MeasuresTest() {
    }

    static void run() {
        meanYear();
        passed();
        errors();
    }

    private static void meanYear() {
        Check.promise(41, "meanYear");
        Manydays x = new Manydays();
        Check.refuses("calendar", INDEX, () -> x.meanYear(19, 20000, 0));
        Check.refuses("calendar -1", INDEX, () -> x.meanYear(-1, 1, 1));
        Check.refuses("years 0", ARGUMENT, () -> x.meanYear(0, 1, 0));
        Check.refuses("years 401", ARGUMENT, () -> x.meanYear(0, 1, 401));
        Check.refuses("greatest years", ARGUMENT, () -> x.meanYear(0, 19999, Integer.MAX_VALUE));
        Check.refuses("least years", ARGUMENT, () -> x.meanYear(0, 1, Integer.MIN_VALUE));
        Check.refuses("from 20000", ARGUMENT, () -> x.meanYear(0, 20000, 1));
        Check.refuses("from -10000", ARGUMENT, () -> x.meanYear(0, -10000, 5));
        Check.refuses("from 0 of 1", ARGUMENT, () -> x.meanYear(1, 0, 5));
        Check.refuses("from 0 of 2", ARGUMENT, () -> x.meanYear(2, 0, 5));
        Check.refuses("to 20000", ARGUMENT, () -> x.meanYear(0, 19999, 2));
        Check.refuses("to 20000 of 400", ARGUMENT, () -> x.meanYear(0, 19601, 400));
        Check.is("to 19999 of 400", 365.2425, () -> x.meanYear(0, 19600, 400));
        Check.is("19999 alone", 365.0, () -> x.meanYear(1, 19999, 1));
        Check.refuses("not begun", STATE, () -> x.meanYear(11, 0, 1));
        Check.refuses("not begun, of one of them", STATE, () -> x.meanYear(11, -5, 10));
        Check.refuses("not begun, but years 0", ARGUMENT, () -> x.meanYear(11, 0, 0));
        Check.refuses("greatest from", ARGUMENT, () -> x.meanYear(0, Integer.MAX_VALUE, 400));
        Check.is("400 years of 0", 365.2425, () -> x.meanYear(0, 1, 400));
        Check.is("4 years of 1 over the one that is not there", 365.25, () -> x.meanYear(1, -2, 4));
        Check.is("-1 and 1 of 1", 365.5, () -> x.meanYear(1, -1, 2));
        Check.is("1 year of 2 with the gap", 355.0, () -> x.meanYear(2, 1582, 1));
        Check.is("3 years", (365.0 + 355.0 + 365.0) / 3.0, () -> x.meanYear(2, 1581, 3));
        for (int calendar = 0; calendar < 19; calendar++) {
            int c = calendar;
            Oracle oracle = Oracle.of(c);
            for (int years : new int[] {1, 3, 7, 399, 400}) {
                long days = oracle.starts[oracle.firstOf(1500 + years)] - oracle.starts[oracle.firstOf(1500)];
                Check.is(years + " years of " + c, (double) days / (double) years, () -> x.meanYear(c, 1500, years));
            }
        }
    }

    private static void passed() {
        Check.promise(42, "passed");
        Manydays x = new Manydays();
        Check.refuses("calendar", INDEX, () -> x.passed(19, 3000001));
        Check.refuses("calendar -1", INDEX, () -> x.passed(-1, 1));
        Check.refuses("day above", STATE, () -> x.passed(0, 3000001));
        Check.refuses("day below", STATE, () -> x.passed(0, -1000001));
        Check.is("January 1", 0f, () -> x.passed(0, 1));
        Check.is("December 31", 365f / 366f, () -> x.passed(0, 0));
        Check.is("December 31 of a year that is not long", 364f / 365f, () -> x.passed(0, 365));
        Check.is("the change", 277f / 355f, () -> x.passed(2, 577736));
        for (int calendar = 0; calendar < 19; calendar++) {
            int c = calendar;
            Oracle oracle = Oracle.of(c);
            for (long day : new long[] {-1000000, -1, 500001, 730300, 2999999, 3000000}) {
                int year = oracle.years[oracle.at(day)];
                int first = oracle.firstOf(year);
                float length = oracle.starts[first + oracle.countOf(year)] - oracle.starts[first];
                float due = (float) (day - oracle.starts[first]) / length;
                Check.is("passed of " + c + " on " + day, due, () -> x.passed(c, day));
            }
        }
    }

    private static void errors() {
        Check.promise(43, "errors");
        Manydays x = new Manydays();
        Check.refuses("day above", STATE, () -> x.errors(3000001));
        Check.refuses("day below", STATE, () -> x.errors(-1000001));
        Check.refuses("least day", STATE, () -> x.errors(Long.MIN_VALUE));
        Check.refuses("greatest day", STATE, () -> x.errors(Long.MAX_VALUE));
        for (long day : new long[] {-1000000, -999999, -2, -1, 0, 1, 577735, 577736, 730120, 2999999, 3000000}) {
            Check.is("errors of " + day, 0, () -> x.errors(day));
        }
        Supply supply = new Supply();
        for (long day = -1000000; day <= 3000000; day += 3989) {
            long d = day;
            Check.is("errors of " + d, 0, () -> supply.get().errors(d));
        }
        for (long change : new long[] {500000, Oracle.gregorian(1600, 1, 5), Oracle.gregorian(1700, 3, 1), 740000}) {
            x.setChange(change);
            for (long day = change - 20; day <= change + 20; day++) {
                long d = day;
                Check.is("errors of " + d + " at the change " + change, 0, () -> x.errors(d));
            }
        }
        x.toggle(5);
        TapeTest.put(x, "ab");
        x.errors(5);
        Check.is("the set stays", 1L, () -> x.ofSet(0, 0));
        Check.is("the tape stays", 2, x::wipe);
    }
}
