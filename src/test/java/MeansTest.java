import java.math.BigInteger;
import java.util.Random;

/** Promises 23 to 25. */
final class MeansTest {
    private static final Class<IndexOutOfBoundsException> INDEX = IndexOutOfBoundsException.class;
    private static final Class<IllegalArgumentException> ARGUMENT = IllegalArgumentException.class;
    private static final Class<NumberFormatException> FORMAT = NumberFormatException.class;
    private static final long[][] MEANS = {{146097, 400}, {1461, 4}, null, {1461, 4}, {1461, 4}, {365, 1}, {365, 1},
        {10631, 30}, {10631, 30}, {10631, 30}, {10631, 30}, {179876755, 492480}, {12053, 33}, {146097, 400},
        {146097, 400}, {1460969, 4000}, {146097, 400}, {210389, 576}, {146097, 400}};

    private MeansTest() {
    }

    static void run() {
        moon();
        drift();
        far();
    }

    private static BigInteger big(long n) {
        return BigInteger.valueOf(n);
    }

    private static BigInteger[] quotient(BigInteger a, BigInteger b) {
        BigInteger rest = a.mod(b);
        return new BigInteger[] {a.subtract(rest).divide(b), rest};
    }

    private static void moon() {
        Check.promise(23, "moon");
        Manydays x = new Manydays();
        long last = Long.MAX_VALUE / 765433;
        long first = -(Long.MAX_VALUE / 765433);
        Check.refuses("greatest", ArithmeticException.class, () -> x.moon(Long.MAX_VALUE));
        Check.refuses("least", ArithmeticException.class, () -> x.moon(Long.MIN_VALUE));
        Check.refuses("above", ArithmeticException.class, () -> x.moon(last + 1));
        Check.refuses("below", ArithmeticException.class, () -> x.moon(first - 1));
        Check.is("moon 0", 0L, () -> x.moon(0));
        Check.is("moon 1", 29L, () -> x.moon(1));
        Check.is("moon -1", -30L, () -> x.moon(-1));
        Check.is("moon 25920", 765433L, () -> x.moon(25920));
        for (long moon : new long[] {last, last - 1, first, first + 1, 123456789, -123456789, 2, 3, -2}) {
            long due = quotient(big(moon).multiply(big(765433)), big(25920))[0].longValueExact();
            Check.is("moon " + moon, due, () -> x.moon(moon));
        }
    }

    private static void drift() {
        Check.promise(24, "drift");
        Manydays x = new Manydays();
        Check.refuses("calendar 19", INDEX, () -> x.drift(19, true));
        Check.refuses("calendar -1", INDEX, () -> x.drift(-1, false));
        Check.refuses("calendar 2", ARGUMENT, () -> x.drift(2, false));
        Check.refuses("calendar 2, below", ARGUMENT, () -> x.drift(2, true));
        long[][] known = {{0, 3, 10}, {1, 39, 5}, {5, -1211, 5}, {7, -163133, 15}, {12, 37, 165}, {15, 1, 20},
            {17, 5933, 360}};
        for (long[] row : known) {
            Check.is("above of " + row[0], row[1], () -> x.drift((int) row[0], false));
            Check.is("below of " + row[0], row[2], () -> x.drift((int) row[0], true));
        }
        for (int calendar = 0; calendar < 19; calendar++) {
            int c = calendar;
            if (c == 2) {
                continue;
            }
            BigInteger above = big(MEANS[c][0]).multiply(big(10000)).subtract(big(MEANS[c][1]).multiply(big(3652422)))
                .multiply(big(1000));
            BigInteger below = big(MEANS[c][1]).multiply(big(10000));
            BigInteger common = above.gcd(below);
            Check.is("above of " + c, above.divide(common).longValueExact(), () -> x.drift(c, false));
            Check.is("below of " + c, below.divide(common).longValueExact(), () -> x.drift(c, true));
        }
    }

    private static void far() {
        Check.promise(25, "far");
        for (int calendar = -1; calendar <= 19; calendar++) {
            int c = calendar;
            Manydays empty = new Manydays();
            Class<? extends RuntimeException> due = c < 0 || c > 18 ? INDEX : FORMAT;
            Check.refuses("empty tape, calendar " + c, due, () -> empty.far(c));
        }
        refused("1 ");
        refused(" 1");
        refused("-1");
        refused("12a4");
        refused("1/2");
        refused("1:2");
        refused("1".repeat(61));
        Manydays x = new Manydays();
        TapeTest.put(x, "77");
        Check.refuses("calendar 2 with a number", ARGUMENT, () -> x.far(2));
        Check.refuses("calendar 19 with a number", INDEX, () -> x.far(19));
        Check.is("the tape stays", "77", () -> TapeTest.tape(x));
        told(0, "0");
        told(5, "000");
        told(0, "1");
        told(0, "400");
        told(11, "0005786");
        told(7, "30");
        told(11, "9".repeat(60));
        told(11, "0".repeat(59) + "1");
        told(17, "1" + "0".repeat(59));
        Random random = new Random(25);
        for (int i = 0; i < 600; i++) {
            int c = random.nextInt(19);
            StringBuilder digits = new StringBuilder();
            int length = 1 + random.nextInt(60);
            for (int k = 0; k < length; k++) {
                digits.append((char) ('0' + random.nextInt(10)));
            }
            if (c != 2) {
                told(c, digits.toString());
            }
        }
    }

    private static void refused(String tape) {
        Manydays x = new Manydays();
        TapeTest.put(x, tape);
        Check.refuses("tape " + tape, FORMAT, () -> x.far(0));
        Check.refuses("tape " + tape + " ahead of the calendar 2", FORMAT, () -> x.far(2));
        Check.is("the tape stays", tape, () -> TapeTest.tape(x));
    }

    private static void told(int calendar, String years) {
        Manydays x = new Manydays();
        TapeTest.put(x, years);
        String due = new BigInteger(years).multiply(big(MEANS[calendar][0])).divide(big(MEANS[calendar][1])).toString();
        Check.is("length of " + years + " in " + calendar, due.length(), () -> x.far(calendar));
        Check.is("days of " + years + " in " + calendar, due, () -> TapeTest.tape(x));
    }
}
