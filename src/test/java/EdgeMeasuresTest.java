/** The boundary cases of the promises 41 to 43, a test for each sentence. */
final class EdgeMeasuresTest {
    private static final String NO_CALENDAR = "Throws `IndexOutOfBoundsException` if there is no such calendar";
    private static final String DAY_BEYOND = "Throws `IllegalStateException` if the day is out of the bounds";

    private EdgeMeasuresTest() {
    }

    static void run() {
        meanYear();
        meanYearAtEnds();
        passed();
        errors();
    }

    private static void meanYear() {
        Edge.of(41, NO_CALENDAR);
        Edge.calendars(c -> x -> x.meanYear(c, 1, 400));
        String argument = "Throws `IllegalArgumentException` if years is out of range, or there is no such year, of one of "
            + "them";
        Edge.of(41, argument, "years");
        Edge.range("years", Edge.ARGUMENT, 1, 400, y -> x -> x.meanYear(0, 2000, y));
        Edge.of(41, argument, "from");
        for (int calendar = 0; calendar <= 18; calendar++) {
            int c = calendar;
            Edge.refusesInts("from of " + c, Edge.ARGUMENT, y -> x -> x.meanYear(c, y, 1),
                Integer.MIN_VALUE, -10000, 20000, Integer.MAX_VALUE);
            Edge.refusesInts("from of " + c + ", 400 years", Edge.ARGUMENT, y -> x -> x.meanYear(c, y, 400),
                Integer.MIN_VALUE, -10399, -10000, 20000, Integer.MAX_VALUE, Integer.MAX_VALUE - 399);
        }
        Edge.refuses("0 of 1", Edge.ARGUMENT, x -> x.meanYear(1, 0, 1));
        Edge.refuses("0 of 2", Edge.ARGUMENT, x -> x.meanYear(2, 0, 400));
        Edge.of(41, argument, "one of them");
        for (int calendar = 0; calendar <= 18; calendar++) {
            int c = calendar;
            for (int years : new int[] {1, 2, 3, 399, 400}) {
                Edge.takes("to 19999 of " + c, x -> x.meanYear(c, 20000 - years, years));
                if (years < 400) {
                    Edge.refuses("to 20000 of " + c, Edge.ARGUMENT, x -> x.meanYear(c, 20000 - years, years + 1));
                }
            }
            Edge.refuses("400 years from 19601 of " + c, Edge.ARGUMENT, x -> x.meanYear(c, 19601, 400));
            Edge.refuses("400 years from 19999 of " + c, Edge.ARGUMENT, x -> x.meanYear(c, 19999, 400));
        }
        Edge.of(41, "Throws `IllegalStateException` if one has not begun");
        for (int years : new int[] {1, 2, 400}) {
            Edge.refuses("from 0, " + years, Edge.STATE, x -> x.meanYear(11, 0, years));
            Edge.refuses("from -9999, " + years, Edge.STATE, x -> x.meanYear(11, -9999, years));
            Edge.refuses("from -1, " + years, Edge.STATE, x -> x.meanYear(11, -1, years));
            Edge.takes("from 1, " + years, x -> x.meanYear(11, 1, years));
        }
    }

    private static void meanYearAtEnds() {
        String sentence = "Returns the sum of the lengths of the year from and those behind it, converted to double, divided by "
            + "years, converted to double.";
        Edge.of(41, sentence, "the first and the last years");
        for (int calendar = 0; calendar <= 18; calendar++) {
            int c = calendar;
            int lowest = c == 11 ? 1 : -9999;
            for (int years : new int[] {1, 2, 7, 400}) {
                Edge.is(years + " from " + lowest + " of " + c, due(c, lowest, years), x -> x.meanYear(c, lowest, years));
                int from = 20000 - years;
                Edge.is(years + " from " + from + " of " + c, due(c, from, years), x -> x.meanYear(c, from, years));
            }
        }
        Edge.of(41, sentence, "over the year 0, or where there is none");
        for (int calendar = 0; calendar <= 18; calendar++) {
            int c = calendar;
            if (c != 11) {
                for (int years : new int[] {1, 2, 3, 4, 400}) {
                    Edge.is(years + " from -1 of " + c, due(c, -1, years), x -> x.meanYear(c, -1, years));
                    Edge.is(years + " from -2 of " + c, due(c, -2, years), x -> x.meanYear(c, -2, years));
                }
            }
        }
        Edge.of(41, "`years`: 1 to 400");
        Edge.is("1", 366.0, x -> x.meanYear(0, 2000, 1));
        Edge.is("400", 365.2425, x -> x.meanYear(0, 2000, 400));
    }

    /** The mean of some years, by the lengths of the oracle's months. */
    private static double due(int calendar, int from, int years) {
        Oracle oracle = Oracle.of(calendar);
        int at = oracle.firstOf(from);
        long days = 0;
        int left = years;
        while (left > 0) {
            days += oracle.length(at);
            left -= oracle.years[at + 1] != oracle.years[at] ? 1 : 0;
            at++;
        }
        return (double) days / (double) years;
    }

    private static void passed() {
        Edge.of(42, NO_CALENDAR);
        Edge.calendars(c -> x -> x.passed(c, 730120));
        Edge.of(42, DAY_BEYOND);
        for (int calendar = 0; calendar <= 18; calendar++) {
            int c = calendar;
            Edge.days("day of " + c, d -> x -> x.passed(c, d));
        }
        String sentence = "Returns the days of the year ahead of it, converted to float, divided by the length of the year, "
            + "converted to float.";
        Edge.of(42, sentence, "the first and the last day of a year");
        for (int calendar = 0; calendar <= 18; calendar++) {
            int c = calendar;
            Oracle oracle = Oracle.of(c);
            long first = oracle.starts[oracle.firstOf(2500)];
            long next = oracle.starts[oracle.firstOf(2501)];
            float length = (float) (next - first);
            Edge.is("the first day of " + c, 0f, x -> x.passed(c, first));
            Edge.is("the second day of " + c, 1f / length, x -> x.passed(c, first + 1));
            Edge.is("the last day of " + c, (length - 1f) / length, x -> x.passed(c, next - 1));
            Edge.is("the next first day of " + c, 0f, x -> x.passed(c, next));
        }
        Edge.of(42, sentence, "the bounds");
        for (int calendar = 0; calendar <= 18; calendar++) {
            int c = calendar;
            Oracle oracle = Oracle.of(c);
            for (long day : new long[] {Edge.FIRST_DAY, Edge.LAST_DAY}) {
                int first = oracle.firstOf(oracle.years[oracle.at(day)]);
                long start = oracle.starts[first];
                float length = (float) (oracle.starts[first + oracle.countOf(oracle.years[first])] - start);
                Edge.is("the day " + day + " of " + c, (float) (day - start) / length, x -> x.passed(c, day));
            }
        }
        Edge.of(42, sentence, "beside the change");
        Edge.is("the change", 277f / 355f, x -> x.passed(2, 577736));
        Edge.is("a day ahead", 276f / 355f, x -> x.passed(2, 577735));
    }

    private static void errors() {
        Edge.of(43, DAY_BEYOND);
        Edge.days("day", d -> x -> x.errors(d));
        String sentence = "Returns how many of these things are not so; always 0.";
        Edge.of(43, sentence, "the bounds, and the days beside them");
        for (long day : new long[] {-1000000, -999999, 2999999, 3000000}) {
            Edge.is("errors of " + day, 0, x -> x.errors(day));
        }
        Edge.of(43, sentence, "the years 0 and 1 of 0, without and with an Easter");
        for (long day : new long[] {-366, -365, -364, -1, 0, 1, 2, 365, 366}) {
            Edge.is("errors of " + day, 0, x -> x.errors(day));
        }
        Edge.of(43, sentence, "the days beside the change, at its bounds");
        for (long change : new long[] {500000, 577736, 740000}) {
            for (long day = change - 12; day <= change + 12; day++) {
                long d = day;
                Edge.is("errors of " + d, 0, Edge.withChange(change, x -> x.errors(d)));
            }
        }
        Edge.of(43, sentence, "the first days of the years of all calendars");
        for (int calendar = 0; calendar <= 18; calendar++) {
            Oracle oracle = Oracle.of(calendar);
            for (int year : new int[] {1100, 1101, 2500, 2501}) {
                long day = oracle.starts[oracle.firstOf(year)];
                if (day > Edge.FIRST_DAY && day <= Edge.LAST_DAY) {
                    Edge.is("errors of " + day, 0, x -> x.errors(day));
                    Edge.is("errors of " + (day - 1), 0, x -> x.errors(day - 1));
                }
            }
        }
        Edge.leaves("errors", x -> x.errors(730120));
    }
}
