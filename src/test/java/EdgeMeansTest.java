import java.math.BigInteger;

/** The boundary cases of the promises 23 to 25, a test for each sentence. */
final class EdgeMeansTest {
    private static final String NO_CALENDAR = "Throws `IndexOutOfBoundsException` if there is no such calendar";
    private static final BigInteger PARTS = BigInteger.valueOf(765433);
    private static final BigInteger DAY = BigInteger.valueOf(25920);
    private static final long[][] MEANS = {{146097, 400}, {1461, 4}, null, {1461, 4}, {1461, 4}, {365, 1}, {365, 1},
        {10631, 30}, {10631, 30}, {10631, 30}, {10631, 30}, {179876755, 492480}, {12053, 33}, {146097, 400},
        {146097, 400}, {1460969, 4000}, {146097, 400}, {210389, 576}, {146097, 400}};

    private EdgeMeansTest() {
    }

    static void run() {
        moon();
        drift();
        far();
        farRefused();
    }

    private static void moon() {
        long last = Long.MAX_VALUE / 765433;
        Edge.of(23, "Throws `ArithmeticException` if 765433 times the number is no long");
        for (long moon : new long[] {last + 1, -last - 1, last + 2, -last - 2, Long.MAX_VALUE, Long.MIN_VALUE,
                Long.MAX_VALUE - 1, Long.MIN_VALUE + 1, 1L << 62, -(1L << 62), 1L << 44, -(1L << 44), 1L << 63 - 19}) {
            boolean isLong = BigInteger.valueOf(moon).multiply(PARTS).bitLength() < 64;
            Check.holds(moon + " is too great", !isLong);
            Edge.refuses("moon " + moon, Edge.ARITHMETIC, x -> x.moon(moon));
        }
        Edge.of(23, "`moon`: any number", "the last ones whose product is a long");
        for (long moon : new long[] {last, last - 1, -last, -last + 1, 1L << 43, -(1L << 43), Integer.MAX_VALUE,
                Integer.MIN_VALUE, 1L << 32, 0, 1, -1}) {
            Edge.is("moon " + moon, moonDue(moon), x -> x.moon(moon));
        }
        Edge.of(23, "Returns the day; it can be out of the bounds.");
        for (long day : new long[] {Edge.FIRST_DAY, Edge.LAST_DAY}) {
            long moon = Math.floorDiv(day * 25920, 765433L);
            for (long k = moon - 2; k <= moon + 2; k++) {
                long here = k;
                Edge.is("moon " + k, moonDue(k), x -> x.moon(here));
            }
        }
    }

    private static long moonDue(long moon) {
        BigInteger[] parts = BigInteger.valueOf(moon).multiply(PARTS).divideAndRemainder(DAY);
        return parts[0].longValueExact() - (parts[1].signum() < 0 ? 1 : 0);
    }

    private static void drift() {
        Edge.of(24, NO_CALENDAR);
        Edge.refusesInts("calendar", Edge.INDEX, c -> x -> x.drift(c, true),
            Integer.MIN_VALUE, -1, 19, Integer.MAX_VALUE);
        Edge.refusesInts("calendar, above the line", Edge.INDEX, c -> x -> x.drift(c, false),
            Integer.MIN_VALUE, -1, 19, Integer.MAX_VALUE);
        Edge.of(24, "Throws `IllegalArgumentException` if it is 2");
        Edge.refuses("2, below the line", Edge.ARGUMENT, x -> x.drift(2, true));
        Edge.refuses("2, above the line", Edge.ARGUMENT, x -> x.drift(2, false));
        Edge.of(24, "`calendar`: a calendar, not 2");
        for (int calendar = 0; calendar <= 18; calendar++) {
            int c = calendar;
            if (c != 2) {
                BigInteger above = BigInteger.valueOf(10000 * MEANS[c][0] - 3652422 * MEANS[c][1]);
                BigInteger below = BigInteger.valueOf(10 * MEANS[c][1]);
                long common = above.gcd(below).longValueExact();
                Edge.is("below of " + c, below.longValueExact() / common, x -> x.drift(c, true));
                Edge.is("above of " + c, above.longValueExact() / common, x -> x.drift(c, false));
            }
        }
        Edge.of(24, "as a fraction without a common divisor, with the number below the line above 0", "a drift below 0");
        Edge.is("above of 5", -1211L, x -> x.drift(5, false));
        Edge.is("below of 5", 5L, x -> x.drift(5, true));
        Edge.is("above of 10", -163133L, x -> x.drift(10, false));
        Edge.is("below of 10", 15L, x -> x.drift(10, true));
    }

    private static void farRefused() {
        String sentence = "Throws `NumberFormatException` if the tape is no such row";
        Edge.of(25, sentence, "empty");
        for (int calendar = 0; calendar <= 18; calendar++) {
            int c = calendar;
            Edge.refuses("by " + c, Edge.FORMAT, Edge.withTape(""), x -> x.far(c));
        }
        Edge.of(25, sentence, "61 digits, and more");
        for (int many : new int[] {61, 62, 100, 1000, 2000}) {
            Edge.refuses(many + " digits", Edge.FORMAT, () -> digits(many, '1'), x -> x.far(0));
            Edge.refuses(many + " zeros", Edge.FORMAT, () -> digits(many, '0'), x -> x.far(0));
        }
        Edge.of(25, sentence, "another sign, in each place");
        for (String sign : new String[] {" ", "-", "/", ":", "a", "+", "."}) {
            for (String tape : new String[] {sign, sign + "12345", "12" + sign + "345", "12345" + sign}) {
                Edge.refuses("tape '" + tape + "'", Edge.FORMAT, Edge.withTape(tape), x -> x.far(0));
            }
        }
        Edge.of(25, "Throws `IllegalArgumentException` if the calendar is 2");
        Edge.refuses("2", Edge.ARGUMENT, Edge.withTape("12345"), x -> x.far(2));
        Edge.refuses("2, 60 digits", Edge.ARGUMENT, Edge.withTape("9".repeat(60)), x -> x.far(2));
        Edge.of(25, NO_CALENDAR);
        Edge.refusesInts("calendar", Edge.INDEX, c -> x -> x.far(c), Integer.MIN_VALUE, -1, 19, Integer.MAX_VALUE);
        Edge.refuses("19, a row of digits", Edge.INDEX, Edge.withTape("123"), x -> x.far(19));
        Edge.of(25, "`calendar`: a calendar, not 2");
        for (int calendar = 0; calendar <= 18; calendar++) {
            if (calendar != 2) {
                far(calendar, "1");
                far(calendar, "492480");
            }
        }
    }

    private static Manydays digits(int many, char digit) {
        Manydays x = new Manydays();
        TapeTest.put(x, String.valueOf(digit).repeat(many));
        return x;
    }

    private static void far() {
        Edge.of(25, "the tape, which is a row of 1 to 60 digits, becomes the digits of this number, without zeros ahead",
            "1 digit");
        for (int digit = 0; digit <= 9; digit++) {
            far(0, String.valueOf(digit));
            far(5, String.valueOf(digit));
        }
        Edge.of(25, "the tape, which is a row of 1 to 60 digits, becomes the digits of this number, without zeros ahead",
            "59 and 60 digits");
        for (int calendar = 0; calendar <= 18; calendar++) {
            if (calendar != 2) {
                far(calendar, "9".repeat(59));
                far(calendar, "9".repeat(60));
                far(calendar, "1" + "0".repeat(59));
                far(calendar, "1" + "0".repeat(58) + "1");
            }
        }
        Edge.of(25, "without zeros ahead");
        far(5, "0");
        far(0, "000");
        far(0, "0".repeat(60));
        far(5, "0".repeat(59) + "1");
        far(11, "0004");
        far(7, "00000030");
        Edge.of(25, "by the mean length of a calendar's years, rounded down");
        for (int calendar = 0; calendar <= 18; calendar++) {
            if (calendar != 2) {
                long below = MEANS[calendar][1];
                far(calendar, String.valueOf(below));
                far(calendar, String.valueOf(below - 1));
                far(calendar, String.valueOf(below + 1));
                far(calendar, below + "0".repeat(50));
            }
        }
        Edge.of(25, "Returns the length of the tape.");
        Edge.is("2 years become 3 digits", 3, Edge.after(x -> x.type('2'), x -> x.far(5)));
        Edge.is("3 years become 4 digits", 4, Edge.after(x -> x.type('3'), x -> x.far(5)));
        Edge.is("0 is 1 digit", 1, Edge.after(x -> x.type('0' << 16 | '0' << 8 | '0'), x -> x.far(5)));
    }

    private static void far(int calendar, String years) {
        String due = new BigInteger(years).multiply(BigInteger.valueOf(MEANS[calendar][0]))
            .divide(BigInteger.valueOf(MEANS[calendar][1])).toString();
        Manydays x = new Manydays();
        TapeTest.put(x, years);
        Check.is("length of " + years + " by " + calendar, due.length(), () -> x.far(calendar));
        Check.is("days of " + years + " by " + calendar, due, () -> TapeTest.tape(x));
    }
}
