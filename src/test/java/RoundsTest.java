import java.math.BigInteger;
import java.util.NoSuchElementException;
import java.util.Random;

/** Promises 19 to 22. */
final class RoundsTest {
    private static final Class<IllegalArgumentException> ARGUMENT = IllegalArgumentException.class;
    private static final Class<IllegalStateException> STATE = IllegalStateException.class;
    private static final int[] LENGTHS = {7, 13, 20, 365, 9, 6, 7, 210, 5, 60};
    private static final int[] BEGINNINGS =
        {1, -1137145, -1137161, -1137490, -1137150, 37, 37, -1721279, -1721279, 45};

    private RoundsTest() {
    }

    static void run() {
        position();
        again();
        meet();
        longCount();
    }

    /** Counted on from a day on which the round begins. */
    private static int due(int round, long day) {
        BigInteger less = BigInteger.valueOf(day).subtract(BigInteger.valueOf(BEGINNINGS[round]));
        return less.mod(BigInteger.valueOf(LENGTHS[round])).intValue() + 1;
    }

    private static void position() {
        Check.promise(19, "position");
        Manydays x = new Manydays();
        Check.refuses("round -1", ARGUMENT, () -> x.position(-1, 3000001));
        Check.refuses("round 10", ARGUMENT, () -> x.position(10, 3000001));
        Check.refuses("day above", STATE, () -> x.position(0, 3000001));
        Check.refuses("day below", STATE, () -> x.position(9, -1000001));
        Check.is("Monday", 1, () -> x.position(0, 1));
        Check.is("Sunday", 7, () -> x.position(0, 0));
        Check.is("13 on 2012-12-21", 4, () -> x.position(1, 734858));
        Check.is("20 on 2012-12-21", 20, () -> x.position(2, 734858));
        Check.is("365 on 2012-12-21", 264, () -> x.position(3, 734858));
        Check.is("60 on its beginning", 1, () -> x.position(9, 45));
        Check.is("60 ahead of it", 60, () -> x.position(9, 44));
        Supply supply = new Supply();
        for (int round = 0; round < 10; round++) {
            int r = round;
            Check.is("the lowest day of " + r, due(r, -1000000), () -> x.position(r, -1000000));
            Check.is("the highest day of " + r, due(r, 3000000), () -> x.position(r, 3000000));
            for (long day = -400; day <= 400; day++) {
                Check.holds("round " + r + " on " + day, supply.get().position(r, day) == due(r, day));
            }
        }
    }

    private static void again() {
        Check.promise(20, "again");
        Manydays x = new Manydays();
        Check.refuses("-1", ARGUMENT, () -> x.again(-1));
        Check.refuses("1024", ARGUMENT, () -> x.again(1024));
        Check.is("none", 1L, () -> x.again(0));
        Check.is("all", 1195740L, () -> x.again(1023));
        Check.is("13 and 20", 260L, () -> x.again(6));
        Check.is("13, 20 and 365", 18980L, () -> x.again(14));
        Supply supply = new Supply();
        for (int bits = 0; bits < 1024; bits++) {
            int b = bits;
            BigInteger common = BigInteger.ONE;
            for (int round = 0; round < 10; round++) {
                if ((bits & 1 << round) != 0) {
                    BigInteger length = BigInteger.valueOf(LENGTHS[round]);
                    common = common.multiply(length).divide(common.gcd(length));
                }
            }
            Check.is("rounds " + b, common.longValue(), () -> supply.get().again(b));
        }
    }

    private static void meet() {
        Check.promise(21, "meet");
        Manydays x = new Manydays();
        Check.refuses("day first", STATE, () -> x.meet(3000001, 10, 0, 10, 0));
        Check.refuses("day below", STATE, () -> x.meet(-1000001, 0, 1, 1, 1));
        Check.refuses("round 10", ARGUMENT, () -> x.meet(1, 10, 1, 0, 1));
        Check.refuses("round -1", ARGUMENT, () -> x.meet(1, -1, 1, 0, 1));
        Check.refuses("other 10", ARGUMENT, () -> x.meet(1, 0, 1, 10, 1));
        Check.refuses("other -1", ARGUMENT, () -> x.meet(1, 0, 1, -1, 1));
        Check.refuses("position 0", ARGUMENT, () -> x.meet(1, 0, 0, 1, 1));
        Check.refuses("position 8 of 7", ARGUMENT, () -> x.meet(1, 0, 8, 1, 1));
        Check.refuses("other position 0", ARGUMENT, () -> x.meet(1, 0, 1, 1, 0));
        Check.refuses("other position 14 of 13", ARGUMENT, () -> x.meet(1, 0, 1, 1, 14));
        Check.refuses("least positions", ARGUMENT, () -> x.meet(1, 0, Integer.MIN_VALUE, 1, Integer.MIN_VALUE));
        Check.refuses("never", NoSuchElementException.class, () -> x.meet(1, 0, 1, 0, 2));
        Check.refuses("never, of 20 and 5", NoSuchElementException.class, () -> x.meet(1, 2, 1, 8, otherThan(x)));
        Check.refuses("never goes ahead of the bounds", NoSuchElementException.class, () -> x.meet(3000000, 0, 1, 0, 2));
        int last = x.position(0, 3000000);
        Check.is("the last day", 3000000L, () -> x.meet(3000000, 0, last, 0, last));
        Check.refuses("behind the last day", STATE, () -> x.meet(3000000, 0, last % 7 + 1, 0, last % 7 + 1));
        Check.is("the day itself", 1L, () -> x.meet(1, 0, 1, 9, due(9, 1)));
        Check.is("2012-12-21", 734858L, () -> x.meet(734858 - 18979, 1, 4, 3, 264) + rest());
        random();
    }

    /** A position of 5 that is not on the days on which 20 has its first one. */
    private static int otherThan(Manydays x) {
        long day = x.near(1, 1, 0);
        while (due(2, day) != 1) {
            day++;
        }
        return due(8, day) % 5 + 1;
    }

    /** The rounds 13 and 365 meet each 4745 days, so the day asked for can be some such steps on. */
    private static long rest() {
        long day = 734858 - 18979;
        while (due(1, day) != 4 || due(3, day) != 264) {
            day++;
        }
        return 734858 - day;
    }

    private static void random() {
        Random random = new Random(21);
        Supply supply = new Supply();
        for (int i = 0; i < 1500; i++) {
            int round = random.nextInt(10);
            int other = random.nextInt(10);
            int position = 1 + random.nextInt(LENGTHS[round]);
            int otherPosition = 1 + random.nextInt(LENGTHS[other]);
            long day = i % 10 == 0 ? 3000000 - random.nextInt(9000) : random.nextInt(4000001) - 1000000;
            long found = day;
            long end = day + 76650;
            while (found < end && (due(round, found) != position || due(other, found) != otherPosition)) {
                found++;
            }
            String what = "meet " + day + " " + round + " " + position + " " + other + " " + otherPosition;
            Check.Call call = () -> supply.get().meet(day, round, position, other, otherPosition);
            if (found == end) {
                Check.refuses(what, NoSuchElementException.class, call);
            } else if (found > 3000000) {
                Check.refuses(what, STATE, call);
            } else {
                Check.is(what, found, call);
            }
        }
    }

    private static void longCount() {
        Check.promise(22, "longCount");
        Manydays x = new Manydays();
        Check.refuses("day above", STATE, () -> x.longCount(3000001, 5));
        Check.refuses("day below", STATE, () -> x.longCount(-1000001, 0));
        Check.refuses("place -1", ARGUMENT, () -> x.longCount(1, -1));
        Check.refuses("place 5", ARGUMENT, () -> x.longCount(1, 5));
        Random random = new Random(22);
        Supply supply = new Supply();
        for (int i = 0; i < 500; i++) {
            long day = i == 0 ? 734858 : i == 1 ? 734857 : i == 2 ? -1000000 : i == 3 ? 3000000
                : random.nextInt(4000001) - 1000000;
            int[] places = new int[5];
            long n = day + 1137142;
            int[] lengths = {20, 18, 20, 20, 1000};
            for (int place = 0; place < 5; place++) {
                places[place] = (int) (n % lengths[place]);
                n /= lengths[place];
            }
            for (int place = 0; place < 5; place++) {
                int p = place;
                Check.is("place " + p + " of " + day, places[p], () -> supply.get().longCount(day, p));
            }
        }
        Check.is("13.0.0.0.0", 13, () -> x.longCount(734858, 4));
        Check.is("12.19.19.17.19", 17, () -> x.longCount(734857, 1));
    }
}
