/** The boundary cases of the promises 19 to 22 and of the section 5, a test for each sentence. */
final class EdgeRoundsTest {
    private static final String ROUNDS = "5. ROUNDS";
    private static final String DAY_BEYOND = "Throws `IllegalStateException` if the day is out of the bounds";
    private static final int[] LENGTHS = {7, 13, 20, 365, 9, 6, 7, 210, 5, 60};
    private static final long[] BEGINNINGS =
        {1, -1137145, -1137161, -1137490, -1137150, 37, 37, -1721279, -1721279, 45};

    private EdgeRoundsTest() {
    }

    static void run() {
        position();
        again();
        meet();
        meetBeyond();
        longCount();
    }

    private static void position() {
        Edge.of(19, "Throws `IllegalArgumentException` if there is no such round");
        Edge.range("round", Edge.ARGUMENT, 0, 9, r -> x -> x.position(r, 1));
        Edge.of(19, DAY_BEYOND);
        for (int round = 0; round <= 9; round++) {
            int r = round;
            Edge.days("day of " + r, d -> x -> x.position(r, d));
        }
        Edge.of(19, "`round`: 0 to 9");
        Edge.is("0", 1, x -> x.position(0, 1));
        Edge.is("9", 1, x -> x.position(9, 45));
        Edge.of(19, "Returns the position, from 1 on.", "it wraps around behind the length");
        for (int round = 0; round <= 9; round++) {
            int r = round;
            for (long turns : new long[] {-2, -1, 0, 1, 2, 40}) {
                long begin = near(BEGINNINGS[r], LENGTHS[r]) + turns * LENGTHS[r];
                Edge.is("the beginning of " + r, 1, x -> x.position(r, begin));
                Edge.is("a day behind it of " + r, 2, x -> x.position(r, begin + 1));
                Edge.is("a day ahead of it of " + r, LENGTHS[r], x -> x.position(r, begin - 1));
                Edge.is("two days ahead of it of " + r, LENGTHS[r] - 1, x -> x.position(r, begin - 2));
            }
        }
        Edge.in(ROUNDS, "its position on a day is the rest of the day less the beginning by the length, and 1",
            "days below the beginning");
        for (int round = 0; round <= 9; round++) {
            int r = round;
            int due = (int) Math.floorMod(Edge.FIRST_DAY - BEGINNINGS[r], (long) LENGTHS[r]) + 1;
            Edge.is("the lowest day of " + r, due, x -> x.position(r, Edge.FIRST_DAY));
            int high = (int) Math.floorMod(Edge.LAST_DAY - BEGINNINGS[r], (long) LENGTHS[r]) + 1;
            Edge.is("the highest day of " + r, high, x -> x.position(r, Edge.LAST_DAY));
        }
        Edge.is("ahead of a beginning that is a day", 7, x -> x.position(0, 0));
        Edge.is("a length ahead of it", 1, x -> x.position(0, -6));
    }

    /** A day of the same position with as many lengths between as it takes to come near the day 0. */
    private static long near(long beginning, int length) {
        long day = beginning;
        while (day < 0) {
            day += length;
        }
        return day;
    }

    private static void again() {
        Edge.of(20, "Throws `IllegalArgumentException` if rounds is below 0 or above 1023");
        Edge.range("rounds", Edge.ARGUMENT, 0, 1023, r -> x -> x.again(r));
        Edge.of(20, "`rounds`: a number in which bit r stands for the round r", "one bit each");
        for (int round = 0; round <= 9; round++) {
            int r = round;
            Edge.is("the round " + r, (long) LENGTHS[r], x -> x.again(1 << r));
        }
        Edge.of(20, "Returns the least common multiple of their lengths; 1 without rounds.", "without rounds");
        Edge.is("0", 1L, x -> x.again(0));
        Edge.of(20, "Returns the least common multiple of their lengths; 1 without rounds.", "all rounds");
        Edge.is("1023", 4L * 9 * 5 * 7 * 13 * 73, x -> x.again(1023));
        Edge.of(20, "Returns the least common multiple of their lengths; 1 without rounds.", "two of the same length");
        Edge.is("0 and 6", 7L, x -> x.again(1 | 1 << 6));
        Edge.of(20, "Returns the least common multiple of their lengths; 1 without rounds.", "one divides the other");
        Edge.is("5 and 60", 60L, x -> x.again(1 << 8 | 1 << 9));
    }

    private static void meet() {
        Edge.of(21, "Throws `IllegalStateException` if day, or the one that is told, is out of the bounds", "day");
        Edge.refusesLongs("day", Edge.STATE, d -> x -> x.meet(d, 0, 1, 1, 1), Edge.BEYOND);
        Edge.takes("the lowest day", x -> x.meet(Edge.FIRST_DAY, 0, 1, 1, 1));
        String argument = "Throws `IllegalArgumentException` if there is no such round or position, of either";
        Edge.of(21, argument, "the round");
        Edge.range("round", Edge.ARGUMENT, 0, 9, r -> x -> x.meet(1, r, 1, r, 1));
        Edge.refusesInts("round", Edge.ARGUMENT, r -> x -> x.meet(1, r, 1, 0, 1), -1, 10, Integer.MAX_VALUE);
        Edge.of(21, argument, "the other round");
        Edge.refusesInts("other", Edge.ARGUMENT, r -> x -> x.meet(1, 0, 1, r, 1),
            Integer.MIN_VALUE, -1, 10, Integer.MAX_VALUE);
        Edge.of(21, argument, "the position");
        for (int round = 0; round <= 9; round++) {
            int r = round;
            Edge.range("position of " + r, Edge.ARGUMENT, 1, LENGTHS[r], p -> x -> x.meet(1, r, p, r, Math.min(LENGTHS[r],
                Math.max(1, p))));
        }
        Edge.of(21, argument, "the other position");
        for (int round = 0; round <= 9; round++) {
            int r = round;
            Edge.range("other position of " + r, Edge.ARGUMENT, 1, LENGTHS[r], p -> x -> x.meet(1, r, Math.min(LENGTHS[r],
                Math.max(1, p)), r, p));
        }
        Edge.of(21, "`round`: 0 to 9");
        Edge.is("9 and 9", 45L, x -> x.meet(1, 9, 1, 9, 1));
        Edge.of(21, "`other`: 0 to 9");
        Edge.is("0 and 9", 45L + 60 * 6, x -> x.meet(50, 0, weekday(45L + 360), 9, 1));
        Edge.of(21, "Returns the least day, not earlier, on which both have them.", "the day itself, a day ahead, behind");
        for (int round = 0; round <= 9; round++) {
            for (int other = 0; other <= 9; other++) {
                meetAround(round, other);
            }
        }
    }

    private static int weekday(long day) {
        return (int) Math.floorMod(day - 1, 7L) + 1;
    }

    private static int position(int round, long day) {
        return (int) Math.floorMod(day - BEGINNINGS[round], (long) LENGTHS[round]) + 1;
    }

    private static long common(int a, int b) {
        int day = a;
        while (day % b != 0) {
            day += a;
        }
        return day;
    }

    private static void meetAround(int round, int other) {
        long day = 730120;
        int position = position(round, day);
        int otherPosition = position(other, day);
        long turn = common(LENGTHS[round], LENGTHS[other]);
        String what = " of " + round + " and " + other;
        Edge.is("on the day" + what, day, x -> x.meet(day, round, position, other, otherPosition));
        Edge.is("a day ahead" + what, day, x -> x.meet(day - 1, round, position, other, otherPosition));
        Edge.is("a turn ahead" + what, day, x -> x.meet(day - turn + 1, round, position, other, otherPosition));
        Edge.is("a day behind" + what, day + turn, x -> x.meet(day + 1, round, position, other, otherPosition));
    }

    private static void meetBeyond() {
        Edge.of(21, "Throws `NoSuchElementException` if they never meet");
        Edge.refuses("two positions of one round", Edge.NO_SUCH, x -> x.meet(1, 0, 1, 0, 2));
        Edge.refuses("first and last of one round", Edge.NO_SUCH, x -> x.meet(1, 3, 1, 3, 365));
        Edge.refuses("two rounds of the same length", Edge.NO_SUCH,
            x -> x.meet(1, 0, position(0, 100), 6, position(6, 100) % 7 + 1));
        Edge.refuses("of 5 and 20", Edge.NO_SUCH, x -> x.meet(1, 8, position(8, 100) % 5 + 1, 2, position(2, 100)));
        Edge.refuses("of 20 and 5", Edge.NO_SUCH, x -> x.meet(1, 2, position(2, 100), 8, position(8, 100) % 5 + 1));
        Edge.refuses("of 210 and 7", Edge.NO_SUCH, x -> x.meet(1, 7, position(7, 100), 0, position(0, 100) % 7 + 1));
        Edge.refuses("of 365 and 60, by 5", Edge.NO_SUCH,
            x -> x.meet(1, 3, position(3, 100), 9, position(9, 100) % 60 + 1));
        Edge.refuses("on the highest day", Edge.NO_SUCH, x -> x.meet(Edge.LAST_DAY, 0, 1, 0, 2));
        Edge.of(21, "Throws `IllegalStateException` if day, or the one that is told, is out of the bounds",
            "the one that is told");
        for (int round = 0; round <= 9; round++) {
            for (int other = 0; other <= 9; other++) {
                meetAtEnd(round, other);
            }
        }
    }

    private static void meetAtEnd(int round, int other) {
        long last = Edge.LAST_DAY;
        long turn = common(LENGTHS[round], LENGTHS[other]);
        String what = " of " + round + " and " + other;
        int position = position(round, last);
        int otherPosition = position(other, last);
        Edge.is("the highest day" + what, last, x -> x.meet(last, round, position, other, otherPosition));
        Edge.is("told on it" + what, last, x -> x.meet(last - turn + 1, round, position, other, otherPosition));
        int then = position(round, last + 1);
        int otherThen = position(other, last + 1);
        Edge.refuses("a day above" + what, Edge.STATE, x -> x.meet(last, round, then, other, otherThen));
        if (turn > 1) {
            Edge.refuses("a turn ahead of it" + what, Edge.STATE, x -> x.meet(last - turn + 2, round, then, other, otherThen));
            Edge.is("a day more ahead" + what, last + 1 - turn, x -> x.meet(last - turn + 1, round, then, other, otherThen));
        }
    }

    private static void longCount() {
        Edge.of(22, "Throws `IllegalArgumentException` if place is out of range");
        Edge.range("place", Edge.ARGUMENT, 0, 4, p -> x -> x.longCount(730120, p));
        Edge.of(22, DAY_BEYOND);
        for (int place = 0; place <= 4; place++) {
            int p = place;
            Edge.days("day, place " + p, d -> x -> x.longCount(d, p));
        }
        Edge.of(22, "`place`: 0 for the last one, to 4");
        count(734858, 0, 0, 0, 0, 13);
        Edge.in(ROUNDS, "The LONG COUNT of a day from -1137142 on", "the lowest day is one behind it");
        Check.holds("it is", Edge.FIRST_DAY > -1137142);
        Edge.takes("its last place", x -> x.longCount(Edge.FIRST_DAY, 0));
        Edge.is("its first place", 0, x -> x.longCount(Edge.FIRST_DAY, 4));
        Edge.in(ROUNDS, "the rest of n by 20", "19 and 0");
        count(734857, 19, 17, 19, 19, 12);
        count(734859, 1, 0, 0, 0, 13);
        count(734877, 19, 0, 0, 0, 13);
        count(734878, 0, 1, 0, 0, 13);
        Edge.in(ROUNDS, "the rest, by 18, of the quotient of n by 20", "17 and 0");
        count(734858 + 359, 19, 17, 0, 0, 13);
        count(734858 + 360, 0, 0, 1, 0, 13);
        Edge.in(ROUNDS, "the rest, by 20, of the quotient of n by 360", "19 and 0");
        count(734858 + 7199, 19, 17, 19, 0, 13);
        count(734858 + 7200, 0, 0, 0, 1, 13);
        Edge.in(ROUNDS, "the rest, by 20, of the quotient of n by 7200", "19 and 0");
        count(734858 + 143999, 19, 17, 19, 19, 13);
        count(734858 + 144000, 0, 0, 0, 0, 14);
        Edge.in(ROUNDS, "the quotient of n by 144000", "20, and the bounds");
        count(-1137142 + 144000 * 20, 0, 0, 0, 0, 20);
        count(-1137142 + 144000, 0, 0, 0, 0, 1);
        count(-1137142 + 143999, 19, 17, 19, 19, 0);
        count(Edge.FIRST_DAY, 137142 % 20, 137142 / 20 % 18, 137142 / 360 % 20, 137142 / 7200 % 20, 0);
        count(Edge.LAST_DAY, 4137142 % 20, 4137142 / 20 % 18, 4137142 / 360 % 20, 4137142 / 7200 % 20, 28);
    }

    private static void count(long day, int... due) {
        for (int place = 0; place <= 4; place++) {
            int p = place;
            if (day >= Edge.FIRST_DAY) {
                Edge.is("place " + p + " of " + day, due[p], x -> x.longCount(day, p));
            }
        }
    }
}
