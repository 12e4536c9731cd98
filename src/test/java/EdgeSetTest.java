/** The boundary cases of the promises 36 to 40 and of the set of section 7, a test for each sentence. */
final class EdgeSetTest {
    private static final String SECTION = "7. REIGNS, SETS";
    private static final int[] LENGTHS = {7, 13, 20, 365, 9, 6, 7, 210, 5, 60};
    private static final long FIRST = Edge.FIRST_DAY;
    private static final long LAST = Edge.LAST_DAY;

    private EdgeSetTest() {
    }

    static void run() {
        gather();
        span();
        gatherFull();
        sift();
        toggle();
        ofSet();
        ofSetAtEnds();
        undo();
        undoAll();
        section();
    }

    private static Manydays with(long... days) {
        Manydays x = new Manydays();
        for (long day : days) {
            x.toggle(day);
        }
        return x;
    }

    private static long day(int year, int month, int date) {
        return Oracle.gregorian(year, month, date);
    }

    private static void gather() {
        Edge.of(36, "Throws `IndexOutOfBoundsException` if there is no such calendar");
        Edge.calendars(c -> x -> x.gather(c, 1, 1, 730120, 730900));
        String state = "Throws `IllegalStateException` if a day is out of the bounds, or (if the span is right) the set would "
            + "have more than 500";
        Edge.of(36, state, "from");
        Edge.refusesLongs("from", Edge.STATE, d -> x -> x.gather(0, 1, 1, d, 5), Edge.BEYOND);
        Edge.takes("the lowest one", x -> x.gather(0, 1, 1, FIRST, FIRST + 400));
        Edge.takes("the highest one", x -> x.gather(0, 1, 1, LAST, LAST));
        Edge.of(36, state, "to");
        Edge.refusesLongs("to", Edge.STATE, d -> x -> x.gather(0, 1, 1, 5, d), Edge.BEYOND);
        Edge.refuses("a day above the highest one", Edge.STATE, x -> x.gather(0, 1, 1, LAST, LAST + 1));
        Edge.refuses("a day below the lowest one", Edge.STATE, x -> x.gather(0, 1, 1, FIRST - 1, FIRST));
        Edge.takes("the lowest one", x -> x.gather(0, 1, 1, FIRST, FIRST));
        Edge.takes("the highest one", x -> x.gather(0, 1, 1, LAST - 400, LAST));
        Edge.of(36, "from a day to another one, both included, into the set", "on the first and the last day");
        for (int calendar = 0; calendar <= 18; calendar++) {
            int c = calendar;
            Oracle oracle = Oracle.of(c);
            long here = oracle.starts[oracle.firstOf(2500)];
            long next = oracle.starts[oracle.firstOf(2501)];
            Edge.is("both by " + c, 2, x -> x.gather(c, 1, 1, here, next));
            Edge.is("the first one by " + c, 1, x -> x.gather(c, 1, 1, here, next - 1));
            Edge.is("the last one by " + c, 1, x -> x.gather(c, 1, 1, here + 1, next));
            Edge.is("none by " + c, 0, x -> x.gather(c, 1, 1, here + 1, next - 1));
            Edge.is("one day by " + c, 1, x -> x.gather(c, 1, 1, here, here));
            Edge.is("the day ahead by " + c, 0, x -> x.gather(c, 1, 1, here - 1, here - 1));
        }
        Edge.of(36, "`month`: any number");
        for (int month : new int[] {Integer.MIN_VALUE, -1, 0, 13, 60, Integer.MAX_VALUE}) {
            Edge.is("month " + month, 0, x -> x.gather(0, month, 1, 0, 40000));
            Edge.is("month " + month + " of 18", month == 13 ? 110 : 0, x -> x.gather(18, month, 1, 0, 40000));
        }
        Edge.of(36, "`date`: any number, the day of the month");
        for (int date : new int[] {Integer.MIN_VALUE, -1, 0, 32, 60, Integer.MAX_VALUE}) {
            Edge.is("date " + date, 0, x -> x.gather(0, 1, date, 0, 40000));
            Edge.is("date " + date + " of 2", 0, x -> x.gather(2, 10, date, 577736 - 20000, 577736 + 20000));
        }
        Edge.of(36, "Puts all days with a month and a day of a calendar", "a day that not all years have");
        Edge.is("February 29", 24, x -> x.gather(0, 2, 29, day(1896, 2, 29), day(1996, 2, 28)));
        Edge.is("the last month of long years of 11", 7, x -> x.gather(11, 13, 1, 730008, 730008 + 6940));
        Edge.is("the 53rd weeks", 5, x -> x.gather(16, 53, 7, day(2000, 1, 3), day(2028, 1, 2)));
        Edge.is("the dates that the change left out", 4, x -> x.gather(2, 10, 10, day(1580, 1, 1), day(1584, 12, 31)));
    }

    private static void span() {
        String argument = "Throws `IllegalArgumentException` if to is earlier than from, or more than 40000 later";
        Edge.of(36, argument, "earlier");
        Edge.refuses("a day earlier", Edge.ARGUMENT, x -> x.gather(0, 1, 1, 1, 0));
        Edge.refuses("all days earlier", Edge.ARGUMENT, x -> x.gather(0, 1, 1, LAST, FIRST));
        Edge.takes("the same day", x -> x.gather(0, 1, 1, 1, 1));
        Edge.of(36, argument, "more than 40000 later");
        Edge.refuses("40001", Edge.ARGUMENT, x -> x.gather(0, 1, 1, 0, 40001));
        Edge.refuses("all days", Edge.ARGUMENT, x -> x.gather(0, 1, 1, FIRST, LAST));
        Edge.refuses("40001, at the lowest day", Edge.ARGUMENT, x -> x.gather(0, 1, 1, FIRST, FIRST + 40001));
        Edge.refuses("40001, at the highest day", Edge.ARGUMENT, x -> x.gather(0, 1, 1, LAST - 40001, LAST));
        Edge.of(36, "`to`: a day, not earlier, at most 40000 later");
        Edge.is("40000", 110, x -> x.gather(0, 1, 1, 0, 40000));
        Edge.is("the last day of 40000", 1, x -> x.gather(0, 2, 29, day(1896, 2, 29) - 40000, day(1896, 2, 29)) - 26);
        Edge.is("40000, at the lowest day", atBound(FIRST, FIRST + 40000), x -> x.gather(0, 1, 1, FIRST, FIRST + 40000));
        Edge.is("40000, at the highest day", atBound(LAST - 40000, LAST), x -> x.gather(0, 1, 1, LAST - 40000, LAST));
        Edge.is("the lowest day itself", 1, x -> x.gather(0, new Manydays().part(0, FIRST, 1), new Manydays().part(0, FIRST, 2),
            FIRST, FIRST));
        Edge.is("the highest day itself", 1, x -> x.gather(0, new Manydays().part(0, LAST, 1), new Manydays().part(0, LAST, 2),
            LAST, LAST));
    }

    /** How many January firsts there are. */
    private static int atBound(long from, long to) {
        Oracle oracle = Oracle.of(0);
        int count = 0;
        for (int at = oracle.at(from - 400); oracle.starts[at] <= to; at++) {
            count += oracle.numbers[at] == 1 && oracle.starts[at] >= from ? 1 : 0;
        }
        return count;
    }

    private static Manydays almostFull() {
        Manydays x = States.fullSet();
        x.toggle(x.ofSet(Long.MAX_VALUE, 2));
        return x;
    }

    private static void gatherFull() {
        String state = "Throws `IllegalStateException` if a day is out of the bounds, or (if the span is right) the set would "
            + "have more than 500";
        Edge.of(36, state, "500, 501");
        Edge.is("the 500th", 500, x -> almostFull().gather(0, 7, 7, 50000, 50364));
        Edge.refuses("the 500th and 501st", Edge.STATE, EdgeSetTest::almostFull, x -> x.gather(0, 7, 7, 50000, 50729));
        Edge.refuses("the 501st", Edge.STATE, States::fullSet, x -> x.gather(0, 7, 7, 50000, 50364));
        Edge.refuses("110 more", Edge.STATE, States::fullSet, x -> x.gather(0, 7, 7, 0, 40000));
        Edge.of(36, state, "the 501st on the first and on the last day of the span");
        Edge.refuses("both", Edge.STATE, States::fullSet, x -> x.gather(0, 1, 6, 6, 6));
        Edge.refuses("the first day", Edge.STATE, States::fullSet, x -> x.gather(0, 1, 6, 6, 40));
        Edge.refuses("the last day", Edge.STATE, States::fullSet, x -> x.gather(0, 1, 6, 2, 6));
        Edge.is("a day behind the span", 500, x -> States.fullSet().gather(0, 1, 6, 2, 5));
        Edge.is("a day ahead of the span", 500, x -> States.fullSet().gather(0, 1, 6, 7, 40));
        Edge.of(36, state, "days that are in the set do not count");
        Edge.is("all of them", 500, x -> States.fullSet().gather(0, 1, 1, 0, 40000));
        Edge.is("one is new", 500, x -> almostFull().gather(0, 1, 4, 0, 40000));
        Edge.refuses("one is new, of a full set", Edge.STATE, States::fullSet, x -> x.gather(0, 1, 5, 0, 365 * 61 + 10));
        Edge.of(36, state, "none is found, of a full set");
        Edge.is("none", 500, x -> States.fullSet().gather(0, 13, 1, 0, 40000));
        Edge.is("none within the span", 500, x -> States.fullSet().gather(0, 7, 7, 0, 5));
        Edge.of(36, state, "if the span is right");
        Edge.refuses("a span that is too long, of a full set", Edge.ARGUMENT, States::fullSet,
            x -> x.gather(0, 7, 7, 0, 40001));
        Edge.refuses("a span that ends ahead, of a full set", Edge.ARGUMENT, States::fullSet, x -> x.gather(0, 7, 7, 9, 8));
        Edge.of(36, "Returns how many days the set has.", "nothing new, from an empty set on");
        Edge.is("none", 0, x -> x.gather(0, 7, 7, 0, 5));
        Edge.is("twice", 1, Edge.after(x -> x.gather(0, 1, 1, 1, 1), x -> x.gather(0, 1, 1, 1, 1)));
    }

    private static void sift() {
        String argument = "Throws `IllegalArgumentException` if there is no such round or position";
        Edge.of(37, argument, "the round");
        Edge.range("round", Edge.ARGUMENT, 0, 9, r -> x -> x.sift(r, 1));
        Edge.of(37, argument, "the position");
        for (int round = 0; round <= 9; round++) {
            int r = round;
            Edge.range("position of " + r, Edge.ARGUMENT, 1, LENGTHS[r], p -> x -> x.sift(r, p));
        }
        Edge.of(37, "`round`: 0 to 9");
        Edge.is("0", 1, x -> with(1, 2).sift(0, 2));
        Edge.is("9", 1, x -> with(45, 46).sift(9, 1));
        Edge.of(37, argument, "of an empty set too");
        Edge.refuses("round 10", Edge.ARGUMENT, Manydays::new, x -> x.sift(10, 1));
        Edge.refuses("position 8", Edge.ARGUMENT, Manydays::new, x -> x.sift(0, 8));
        Edge.of(37, "Keeps the days of the set on which a round has a position.", "none, all, the first and last position");
        Edge.is("an empty set", 0, x -> x.sift(0, 7));
        Edge.is("all", 3, x -> with(7, 14, 21).sift(0, 7));
        Edge.is("none", 0, x -> with(7, 14, 21).sift(0, 1));
        Edge.is("the first one", 7L, x -> siftedTo(0, 7, 7, 8));
        Edge.is("the last one", 8L, x -> siftedTo(0, 1, 7, 8));
        Edge.is("the ends of the bounds", 2, x -> with(FIRST, LAST, 6).sift(8, position(FIRST)));
        Edge.of(37, "Returns how many days the set has.", "of a full set");
        int due = 0;
        Manydays full = States.fullSet();
        for (int weekday = 1; weekday <= 7; weekday++) {
            due += States.fullSet().sift(0, weekday);
        }
        int all = due;
        Check.is("the weekdays add up", 500, () -> all);
        Check.is("a full set", full.sift(0, 1), () -> full.sift(0, 1));
    }

    private static int position(long day) {
        return new Manydays().position(8, day);
    }

    private static long siftedTo(int round, int position, long... days) {
        Manydays x = with(days);
        x.sift(round, position);
        return x.ofSet(Long.MIN_VALUE, 1);
    }

    private static void toggle() {
        String state = "Throws `IllegalStateException` if the day is out of the bounds, or the set has 500 and not this one";
        Edge.of(38, state, "the day");
        Edge.days("day", d -> x -> x.toggle(d));
        Edge.refusesLongs("day, of an empty set", Edge.STATE, d -> x -> new Manydays().toggle(d), Edge.BEYOND);
        Edge.of(38, state, "499, 500");
        Edge.is("the 500th", true, x -> almostFull().toggle(2000000));
        Edge.refuses("the 501st", Edge.STATE, States::fullSet, x -> x.toggle(2000000));
        Edge.refuses("the 501st, the lowest day", Edge.STATE, States::fullSet, x -> x.toggle(FIRST));
        Edge.refuses("the 501st, the highest day", Edge.STATE, States::fullSet, x -> x.toggle(LAST));
        Edge.refuses("the 501st, among the others", Edge.STATE, States::fullSet, x -> x.toggle(6));
        Edge.of(38, state, "the set has 500 and this one");
        Edge.is("the first day", false, x -> States.fullSet().toggle(1));
        Edge.is("the last day", false, x -> States.fullSet().toggle(States.fullSet().ofSet(Long.MAX_VALUE, 2)));
        Manydays x = States.fullSet();
        Check.is("out", false, () -> x.toggle(1));
        Check.is("499", 499L, () -> x.ofSet(0, 0));
        Check.is("in again", true, () -> x.toggle(1));
        Check.is("500", 500L, () -> x.ofSet(0, 0));
        Check.refuses("and no more", Edge.STATE, () -> x.toggle(2000000));
        Edge.of(38, "Puts a day into the set, or takes it out if it is in it.", "each place of a full set, out and in again");
        for (int place = 0; place < 500; place += place < 20 || place >= 480 ? 1 : 20) {
            outAndIn(place);
        }
        Edge.of(38, "Returns whether it is in it then.", "the ends of the bounds, in and out");
        for (long day : new long[] {FIRST, LAST, 0, -1}) {
            Manydays y = new Manydays();
            Check.is(day + " in", true, () -> y.toggle(day));
            Check.is(day + " is there", day, () -> y.ofSet(day, 1));
            Check.is(day + " out", false, () -> y.toggle(day));
            Check.is(day + " is not there", 0L, () -> y.ofSet(day, 0));
        }
    }

    /** The days beside one that is taken out of a full set stay, and so do the first and the last one. */
    private static void outAndIn(int place) {
        Manydays x = new Manydays();
        x.gather(0, 1, 1, 0, 40000);
        x.gather(0, 1, 2, 0, 40000);
        x.gather(0, 1, 3, 0, 40000);
        x.gather(0, 1, 4, 0, 40000);
        x.gather(0, 1, 5, 0, 365 * 60 + 10);
        java.util.List<Long> days = new java.util.ArrayList<>();
        for (int year = 1; year <= 110; year++) {
            for (int date = 1; date <= (year <= 60 ? 5 : 4); date++) {
                days.add(day(year, 1, date));
            }
        }
        long gone = days.get(place);
        Check.is("out " + gone, false, () -> x.toggle(gone));
        Check.is("499", 499L, () -> x.ofSet(0, 0));
        Check.is("the first one", days.get(place == 0 ? 1 : 0), () -> x.ofSet(Long.MIN_VALUE, 1));
        Check.is("the last one", days.get(place == 499 ? 498 : 499), () -> x.ofSet(Long.MAX_VALUE, 2));
        for (int i = Math.max(0, place - 3); i <= Math.min(499, place + 3); i++) {
            long there = days.get(i);
            if (there < gone) {
                Check.is(there + " stays", there, () -> x.ofSet(there, 1));
            } else if (there > gone) {
                Check.is(there + " stays", there, () -> x.ofSet(there, 2));
            }
        }
        Check.is("in again", true, () -> x.toggle(gone));
        Check.is("500", 500L, () -> x.ofSet(0, 0));
        Check.is("it is there", gone, () -> x.ofSet(gone, 1));
        Check.is("the last one again", days.get(499), () -> x.ofSet(Long.MAX_VALUE, 2));
    }

    private static void ofSet() {
        Edge.of(39, "Throws `IllegalArgumentException` if how is out of range");
        Edge.refusesInts("how", Edge.ARGUMENT, h -> x -> x.ofSet(100, h),
            Integer.MIN_VALUE, -1, 3, Integer.MAX_VALUE);
        for (int how = 0; how <= 2; how++) {
            int h = how;
            Edge.takes("how " + h, x -> with(100).ofSet(100, h));
        }
        String none = "Throws `NoSuchElementException` if there is no such day";
        Edge.of(39, none, "an empty set");
        for (long day : new long[] {Long.MIN_VALUE, FIRST, 0, LAST, Long.MAX_VALUE}) {
            Edge.refuses("none not earlier than " + day, Edge.NO_SUCH, Manydays::new, x -> x.ofSet(day, 1));
            Edge.refuses("none not later than " + day, Edge.NO_SUCH, Manydays::new, x -> x.ofSet(day, 2));
        }
        Edge.of(39, none, "a set that became empty again");
        for (int how = 1; how <= 2; how++) {
            int h = how;
            Edge.refuses("toggled out, how " + h, Edge.NO_SUCH, () -> with(5, 5), x -> x.ofSet(5, h));
            Edge.refuses("sifted out, how " + h, Edge.NO_SUCH, () -> {
                Manydays x = with(5, 6);
                x.sift(0, 1);
                return x;
            }, x -> x.ofSet(5, h));
        }
        Edge.of(39, none, "behind the last one, ahead of the first one");
        Edge.refuses("not earlier than a day behind the last one", Edge.NO_SUCH, () -> with(10, 20), x -> x.ofSet(21, 1));
        Edge.refuses("not earlier than the greatest long", Edge.NO_SUCH, () -> with(10, LAST),
            x -> x.ofSet(Long.MAX_VALUE, 1));
        Edge.refuses("not later than a day ahead of the first one", Edge.NO_SUCH, () -> with(10, 20), x -> x.ofSet(9, 2));
        Edge.refuses("not later than the least long", Edge.NO_SUCH, () -> with(FIRST, 20), x -> x.ofSet(Long.MIN_VALUE, 2));
        Edge.refuses("not earlier, of a full set", Edge.NO_SUCH, States::fullSet, x -> x.ofSet(40000, 1));
        Edge.refuses("not later, of a full set", Edge.NO_SUCH, States::fullSet, x -> x.ofSet(0, 2));
    }

    private static void ofSetAtEnds() {
        Edge.of(39, "`how`: 0 for the number of days of the set, 1 for the earliest one not earlier, 2 for the latest one not "
            + "later", "on a day of the set, a day ahead, a day behind");
        long[][] due = {{9, 10, 0}, {10, 10, 10}, {11, 20, 10}, {19, 20, 10}, {20, 20, 20}, {21, 30, 20}, {30, 30, 30},
            {31, 0, 30}};
        for (long[] row : due) {
            if (row[1] != 0) {
                Edge.is("not earlier than " + row[0], row[1], x -> with(30, 10, 20).ofSet(row[0], 1));
            }
            if (row[2] != 0) {
                Edge.is("not later than " + row[0], row[2], x -> with(30, 10, 20).ofSet(row[0], 2));
            }
        }
        Edge.of(39, "`day`: any day, also out of the bounds");
        for (long day : new long[] {Long.MIN_VALUE, Long.MIN_VALUE + 1, -(1L << 32), FIRST - 1}) {
            Edge.is("not earlier than " + day, FIRST, x -> with(FIRST, 0, LAST).ofSet(day, 1));
            Edge.is("the number, by " + day, 3L, x -> with(FIRST, 0, LAST).ofSet(day, 0));
        }
        for (long day : new long[] {Long.MAX_VALUE, Long.MAX_VALUE - 1, 1L << 32, LAST + 1}) {
            Edge.is("not later than " + day, LAST, x -> with(FIRST, 0, LAST).ofSet(day, 2));
            Edge.is("the number, by " + day, 3L, x -> with(FIRST, 0, LAST).ofSet(day, 0));
        }
        Edge.of(39, "0 for the number of days of the set", "empty and full");
        Edge.is("empty", 0L, x -> x.ofSet(0, 0));
        Edge.is("full", 500L, x -> States.fullSet().ofSet(0, 0));
        Edge.is("499", 499L, x -> almostFull().ofSet(0, 0));
    }

    private static void undo() {
        String none = "Throws `NoSuchElementException` if there is none";
        Edge.of(40, none, "a new object");
        Edge.refuses("none", Edge.NO_SUCH, Manydays::new, Manydays::undo);
        Edge.of(40, none, "all are undone");
        Edge.refuses("the second of one", Edge.NO_SUCH, () -> undone(1, 1), Manydays::undo);
        Edge.refuses("the eleventh of ten", Edge.NO_SUCH, () -> undone(10, 10), Manydays::undo);
        Edge.refuses("the eleventh of eleven", Edge.NO_SUCH, () -> undone(11, 10), Manydays::undo);
        Edge.refuses("the eleventh of thirty", Edge.NO_SUCH, () -> undone(30, 10), Manydays::undo);
        Edge.of(40, none, "what does not change the set is no change of it");
        Manydays x = new Manydays();
        TapeTest.put(x, "gre 1-1-1");
        x.reign(5, 5);
        x.setChange(600000);
        x.ofSet(0, 0);
        x.errors(5);
        Check.refuses("other calls", Edge.NO_SUCH, x::undo);
        Check.refuses("a toggle that is refused", Edge.STATE, () -> x.toggle(LAST + 1));
        Check.refuses("a sift that is refused", Edge.ARGUMENT, () -> x.sift(0, 8));
        Check.refuses("a gather that is refused", Edge.ARGUMENT, () -> x.gather(0, 1, 1, 5, 4));
        Check.refuses("none of them", Edge.NO_SUCH, x::undo);
        Edge.of(40, none, "an undoing is no change that can be undone");
        Manydays y = with(1, 2);
        y.undo();
        Check.is("the first one", 0, y::undo);
        Check.refuses("none is left", Edge.NO_SUCH, y::undo);
        Edge.of(40, "Returns how many more can be undone.", "1, 9, 10, 11 and 30 changes");
        Edge.is("of 1", 0, z -> undone(1, 0).undo());
        Edge.is("of 2", 1, z -> undone(2, 0).undo());
        Edge.is("of 9", 8, z -> undone(9, 0).undo());
        Edge.is("of 10", 9, z -> undone(10, 0).undo());
        Edge.is("of 11", 9, z -> undone(11, 0).undo());
        Edge.is("of 30", 9, z -> undone(30, 0).undo());
        Edge.is("the last of 11", 0, z -> undone(11, 9).undo());
    }

    /** The days 1, 2 and so on are put in, and the last ones undone. */
    private static Manydays undone(int changes, int undoings) {
        Manydays x = new Manydays();
        for (int i = 1; i <= changes; i++) {
            x.toggle(i);
        }
        for (int i = 0; i < undoings; i++) {
            x.undo();
        }
        return x;
    }

    private static void undoAll() {
        Edge.of(40, "Undoes the latest change of the set.", "of each kind, back to an empty set and to a full one");
        Manydays x = States.fullSet();
        for (int i = 3; i >= 0; i--) {
            int more = i + 1;
            Check.is("gather undone", more, x::undo);
            Check.is("days left", 110L * more, () -> x.ofSet(0, 0));
        }
        Check.is("the first one undone", 0, x::undo);
        Check.is("empty", 0L, () -> x.ofSet(0, 0));
        Manydays y = States.fullSet();
        y.sift(0, 1);
        Check.is("sift undone", 5, y::undo);
        Check.is("full again", 500L, () -> y.ofSet(0, 0));
        Check.is("the first day", 1L, () -> y.ofSet(Long.MIN_VALUE, 1));
        y.toggle(1);
        Check.is("toggle undone", 5, y::undo);
        Check.is("the first day again", 1L, () -> y.ofSet(Long.MIN_VALUE, 1));
        Check.is("full once more", 500L, () -> y.ofSet(0, 0));
        Edge.of(40, "Undoes the latest change of the set.", "each day below the ones ahead, 1 to 25 changes");
        for (int changes = 1; changes <= 25; changes++) {
            falling(changes);
        }
        Edge.of(40, "Undoes the latest change of the set.", "change and undo in turns, far more than ten times");
        Manydays z = with(5);
        for (int i = 0; i < 40; i++) {
            long day = 100 + i;
            Check.is("in " + i, true, () -> z.toggle(day));
            if (i % 4 != 3) {
                Check.is("undone " + i, Math.min(9, i / 4 + 1), z::undo);
            }
        }
        Check.is("the ten that stayed", 11L, () -> z.ofSet(0, 0));
    }

    private static void falling(int changes) {
        Manydays x = new Manydays();
        for (int i = 1; i <= changes; i++) {
            x.toggle(-i);
        }
        for (int left = changes - 1; left >= Math.max(0, changes - 10); left--) {
            long many = left;
            Check.is("more of " + changes, many - Math.max(0, changes - 10), x::undo);
            Check.is("days of " + changes, many, () -> x.ofSet(0, 0));
            if (many > 0) {
                Check.is("the first one of " + changes, -many, () -> x.ofSet(Long.MIN_VALUE, 1));
                Check.is("the last one of " + changes, -1L, () -> x.ofSet(Long.MAX_VALUE, 2));
            }
        }
    }

    private static void section() {
        Edge.in(SECTION, "THE SET is a set of at most 500 days, empty at first.", "500 days one by one");
        Manydays x = new Manydays();
        for (int i = 0; i < 500; i++) {
            long day = FIRST + 8000L * (i * 7 % 500);
            Check.is("in " + day, true, () -> x.toggle(day));
        }
        Check.is("500", 500L, () -> x.ofSet(0, 0));
        Check.refuses("501", Edge.STATE, () -> x.toggle(LAST));
        Check.is("the first one", FIRST, () -> x.ofSet(FIRST, 1));
        Check.is("the last one", FIRST + 8000L * 499, () -> x.ofSet(LAST, 2));
        Edge.in(SECTION, "The latest 10 changes of the set (also those by which it stays the same) can be undone",
            "ten by which it stays the same");
        Manydays same = with(7);
        for (int i = 0; i < 5; i++) {
            same.sift(0, 7);
            same.gather(0, 1, 7, 7, 7);
        }
        for (int i = 9; i >= 0; i--) {
            int more = i;
            Check.is("more " + i, more, same::undo);
            Check.is("one day", 1L, () -> same.ofSet(0, 0));
        }
        Check.refuses("the one that put it in can't be", Edge.NO_SUCH, same::undo);
        Edge.in(SECTION, "The latest 10 changes of the set (also those by which it stays the same) can be undone",
            "of an empty set");
        Manydays empty = new Manydays();
        empty.sift(0, 1);
        empty.gather(0, 13, 1, 0, 40000);
        Check.is("two changes", 1, empty::undo);
        Check.is("one change", 0, empty::undo);
        Edge.in(SECTION, "the latest one first", "back through ten of fifteen");
        Manydays many = undone(15, 0);
        for (int i = 14; i >= 5; i--) {
            int left = i;
            Check.is("more " + (left - 5), left - 5, many::undo);
            Check.is("days left", (long) left, () -> many.ofSet(0, 0));
            Check.is("the last day", (long) left, () -> many.ofSet(Long.MAX_VALUE, 2));
        }
        Check.refuses("no more", Edge.NO_SUCH, many::undo);
        Check.is("five stay", 5L, () -> many.ofSet(0, 0));
    }
}
