import java.util.ArrayList;
import java.util.List;
import java.util.NoSuchElementException;
import java.util.Random;
import java.util.TreeSet;

/** Promises 36 to 40. */
final class SetTest {
    private static final Class<IndexOutOfBoundsException> INDEX = IndexOutOfBoundsException.class;
    private static final Class<IllegalArgumentException> ARGUMENT = IllegalArgumentException.class;
    private static final Class<IllegalStateException> STATE = IllegalStateException.class;
    private static final Class<NoSuchElementException> NO_SUCH = NoSuchElementException.class;

    private SetTest() {
    }

    static void run() {
        gather();
        fullByGather();
        sift();
        toggle();
        ofSet();
        undo();
        for (int seed = 0; seed < 100; seed++) {
            random(seed);
        }
    }

    private static void gather() {
        Check.promise(36, "gather");
        Manydays x = new Manydays();
        Check.refuses("calendar", INDEX, () -> x.gather(19, 1, 1, 3000001, -1000001));
        Check.refuses("calendar -1", INDEX, () -> x.gather(-1, 1, 1, 1, 2));
        Check.refuses("from", STATE, () -> x.gather(0, 1, 1, -1000001, 5));
        Check.refuses("to", STATE, () -> x.gather(0, 1, 1, 5, 3000001));
        Check.refuses("a day out of the bounds goes first", STATE, () -> x.gather(0, 1, 1, 3000001, 5));
        Check.refuses("to is earlier", ARGUMENT, () -> x.gather(0, 1, 1, 6, 5));
        Check.refuses("40001 later", ARGUMENT, () -> x.gather(0, 1, 1, 0, 40001));
        Check.refuses("nothing to undo yet", NO_SUCH, x::undo);
        Check.is("40000 later", 110, () -> x.gather(0, 1, 1, 0, 40000));
        Check.is("the earliest one", 1L, () -> x.ofSet(-1000000, 1));
        Check.is("the same once more", 110, () -> x.gather(0, 1, 1, 0, 40000));
        Check.is("no such month", 110, () -> x.gather(0, 13, 1, 0, 40000));
        Check.is("no such day", 110, () -> x.gather(0, 2, 30, 0, 40000));
        Check.is("least numbers", 110, () -> x.gather(2, Integer.MIN_VALUE, Integer.MIN_VALUE, 0, 40000));
        Check.is("greatest numbers", 110, () -> x.gather(18, Integer.MAX_VALUE, Integer.MAX_VALUE, 0, 40000));
        Manydays y = new Manydays();
        Check.is("both days are included", 2, () -> y.gather(0, 1, 1, 1, 366));
        Check.is("a day ahead", 2, () -> y.gather(0, 1, 1, 2, 365));
        Check.is("one day", 3, () -> y.gather(0, 1, 5, 5, 5));
        Check.is("not this day", 3, () -> y.gather(0, 1, 5, 6, 6));
        Manydays z = new Manydays();
        Check.is("February 29", 2, () -> z.gather(0, 2, 29, Oracle.gregorian(2000, 2, 29), Oracle.gregorian(2004, 2, 29)));
        Check.is("over the year that is not there", 4, () -> z.gather(1, 1, 1, -367, -1));
        Check.is("the gap", 4, () -> z.gather(2, 10, 10, 577459, 577459 + 354));
        Check.is("the bounds", 4 + countOf(0, 3, 5, -1000000, -960000),
            () -> z.gather(0, 3, 5, -1000000, -960000));
        for (int calendar = 0; calendar < 19; calendar++) {
            int c = calendar;
            Manydays w = new Manydays();
            for (int month = 1; month <= 13; month += 4) {
                int m = month;
                int date = 1 + 6 * (month % 2);
                long from = 700000 + 1000 * month;
                long due = countOf(c, m, date, from, from + 9000);
                w.toggle(from - 1);
                Check.is("month " + m + " of " + c, due + 1, () -> (long) w.gather(c, m, date, from, from + 9000));
                Check.is("back", 1, () -> backTo(w));
                w.toggle(from - 1);
            }
        }
    }

    private static int backTo(Manydays x) {
        x.undo();
        return (int) x.ofSet(0, 0);
    }

    private static int countOf(int calendar, int month, int date, long from, long to) {
        Oracle oracle = Oracle.of(calendar);
        int count = 0;
        for (long day = from; day <= to; day++) {
            int at = oracle.at(day);
            if (oracle.numbers[at] == month && oracle.dateOf(at, day) == date) {
                count++;
            }
        }
        return count;
    }

    private static void fullByGather() {
        Manydays x = new Manydays();
        for (int date = 1; date <= 4; date++) {
            int d = date;
            Check.is("gather " + d, 110 * d, () -> x.gather(0, 1, d, 0, 40000));
        }
        Check.refuses("550", STATE, () -> x.gather(0, 1, 5, 0, 40000));
        Check.refuses("the wrong span goes first", ARGUMENT, () -> x.gather(0, 1, 5, 0, 40001));
        Check.is("nothing has changed", 440L, () -> x.ofSet(0, 0));
        Check.is("days that are in it do not count", 440, () -> x.gather(0, 1, 4, 0, 40000));
        Check.is("to the limit", 500, () -> x.gather(0, 1, 5, 0, 365 * 60 + 10));
        Check.is("at the limit, nothing new", 500, () -> x.gather(0, 1, 5, 0, 365 * 60 + 10));
        Check.refuses("one more", STATE, () -> x.gather(0, 1, 6, 0, 365));
        Check.refuses("one more, on the first day of the span", STATE, () -> x.gather(0, 1, 6, 6, 40));
        Check.refuses("one more, on the last day of the span", STATE, () -> x.gather(0, 1, 6, 2, 6));
        Check.is("none in the span", 500, () -> x.gather(0, 1, 6, 7, 40));
        Check.is("undone", 7, x::undo);
        Check.refuses("toggle one more", STATE, () -> x.toggle(2000000));
        Check.is("take one out", false, () -> x.toggle(1));
        Check.is("put another in", true, () -> x.toggle(2000000));
        Check.is("500", 500L, () -> x.ofSet(0, 0));
        Check.is("undo", 8, x::undo);
        Check.is("499 again", 499L, () -> x.ofSet(0, 0));
    }

    private static void sift() {
        Check.promise(37, "sift");
        Manydays x = new Manydays();
        Check.refuses("round 10", ARGUMENT, () -> x.sift(10, 1));
        Check.refuses("round -1", ARGUMENT, () -> x.sift(-1, 1));
        Check.refuses("position 0", ARGUMENT, () -> x.sift(0, 0));
        Check.refuses("position 8", ARGUMENT, () -> x.sift(0, 8));
        Check.refuses("nothing to undo yet", NO_SUCH, x::undo);
        Check.is("an empty set", 0, () -> x.sift(0, 7));
        for (long day = 1; day <= 14; day++) {
            x.toggle(day);
        }
        Check.is("Sundays", 2, () -> x.sift(0, 7));
        Check.is("the first one", 7L, () -> x.ofSet(0, 1));
        Check.is("the last one", 14L, () -> x.ofSet(100, 2));
        Check.is("once more", 2, () -> x.sift(0, 7));
        Check.is("none", 0, () -> x.sift(0, 6));
        Check.is("undone", 9, x::undo);
        Check.is("two", 2L, () -> x.ofSet(0, 0));
        Check.is("undone", 8, x::undo);
        Check.is("undone", 7, x::undo);
        Check.is("fourteen", 14L, () -> x.ofSet(0, 0));
        Manydays y = new Manydays();
        y.gather(0, 1, 1, Oracle.gregorian(1999, 1, 1), Oracle.gregorian(2030, 1, 1));
        long due = 0;
        for (int year = 1999; year <= 2030; year++) {
            due += Math.floorMod(Oracle.gregorian(year, 1, 1) + 1137145, 13) == 3 ? 1 : 0;
        }
        Check.is("the round 1", due, () -> (long) y.sift(1, 4));
    }

    private static void toggle() {
        Check.promise(38, "toggle");
        Manydays x = new Manydays();
        Check.refuses("day above", STATE, () -> x.toggle(3000001));
        Check.refuses("day below", STATE, () -> x.toggle(-1000001));
        Check.refuses("nothing to undo yet", NO_SUCH, x::undo);
        Check.is("in", true, () -> x.toggle(5));
        Check.is("in, below", true, () -> x.toggle(-1000000));
        Check.is("in, above", true, () -> x.toggle(3000000));
        Check.is("three", 3L, () -> x.ofSet(0, 0));
        Check.is("out", false, () -> x.toggle(5));
        Check.is("two", 2L, () -> x.ofSet(0, 0));
        Check.is("in again", true, () -> x.toggle(5));
    }

    private static void ofSet() {
        Check.promise(39, "ofSet");
        Manydays x = new Manydays();
        Check.refuses("how 3", ARGUMENT, () -> x.ofSet(0, 3));
        Check.refuses("how -1", ARGUMENT, () -> x.ofSet(0, -1));
        Check.refuses("none not earlier", NO_SUCH, () -> x.ofSet(Long.MIN_VALUE, 1));
        Check.refuses("none not later", NO_SUCH, () -> x.ofSet(Long.MAX_VALUE, 2));
        x.toggle(30);
        x.toggle(10);
        x.toggle(20);
        Check.is("number", 3L, () -> x.ofSet(Long.MAX_VALUE, 0));
        Check.is("not earlier, itself", 20L, () -> x.ofSet(20, 1));
        Check.is("not earlier", 20L, () -> x.ofSet(11, 1));
        Check.is("not earlier, any day", 10L, () -> x.ofSet(Long.MIN_VALUE, 1));
        Check.refuses("none not earlier", NO_SUCH, () -> x.ofSet(31, 1));
        Check.refuses("none not earlier, any day", NO_SUCH, () -> x.ofSet(Long.MAX_VALUE, 1));
        Check.is("not later, itself", 20L, () -> x.ofSet(20, 2));
        Check.is("not later", 10L, () -> x.ofSet(19, 2));
        Check.is("not later, any day", 30L, () -> x.ofSet(Long.MAX_VALUE, 2));
        Check.refuses("none not later", NO_SUCH, () -> x.ofSet(9, 2));
        Check.refuses("none not later, any day", NO_SUCH, () -> x.ofSet(Long.MIN_VALUE, 2));
    }

    private static void undo() {
        Check.promise(40, "undo");
        Manydays x = new Manydays();
        Check.refuses("none", NO_SUCH, x::undo);
        for (long day = 1; day <= 12; day++) {
            x.toggle(day);
        }
        for (int i = 9; i >= 0; i--) {
            int more = i;
            Check.is("more " + more, more, x::undo);
            Check.is("days " + (more + 2), more + 2L, () -> x.ofSet(0, 0));
        }
        Check.refuses("no eleventh", NO_SUCH, x::undo);
        Check.is("two stay", 2L, () -> x.ofSet(0, 0));
        x.sift(0, 1);
        x.gather(0, 1, 1, 5, 6);
        Check.is("a change by which it stays the same", 1, x::undo);
        Check.is("the sift", 0, x::undo);
        Check.is("two again", 2L, () -> x.ofSet(0, 0));
        Check.refuses("none again", NO_SUCH, x::undo);
    }

    private static void random(int seed) {
        Check.promise(40, "the set by chance");
        Random random = new Random(seed);
        Manydays x = new Manydays();
        TreeSet<Long> due = new TreeSet<>();
        List<TreeSet<Long>> past = new ArrayList<>();
        int full = seed % 3 == 0 ? 40000 : 3000;
        for (int i = 0; i < 150; i++) {
            TreeSet<Long> before = new TreeSet<>(due);
            int kind = random.nextInt(12);
            if (kind < 5) {
                long day = random.nextInt(60);
                if (due.size() == 500 && !due.contains(day)) {
                    Check.refuses("toggle, full", STATE, () -> x.toggle(day));
                    continue;
                }
                if (!due.remove(day)) {
                    due.add(day);
                }
                Check.is("toggle", due.contains(day), () -> x.toggle(day));
                past.add(before);
            } else if (kind < 7) {
                gatherByChance(x, due, past, random, full);
            } else if (kind == 7 && random.nextInt(3) == 0) {
                due.removeIf(day -> Math.floorMod(day - 1, 7L) + 1 != 4);
                Check.is("sift", due.size(), () -> x.sift(0, 4));
                past.add(before);
            } else if (kind < 10 && !past.isEmpty()) {
                due.clear();
                due.addAll(past.remove(past.size() - 1));
                Check.is("undo", past.size(), x::undo);
            } else if (past.isEmpty()) {
                Check.refuses("no undo", NO_SUCH, x::undo);
            }
            if (past.size() > 10) {
                past.remove(0);
            }
            long day = random.nextInt(80) - 10;
            Long up = due.ceiling(day);
            Long down = due.floor(day);
            look("not earlier", up, () -> x.ofSet(day, 1));
            Check.is("size", (long) due.size(), () -> x.ofSet(day, 0));
            if (i % 4 == 0) {
                look("not later", down, () -> x.ofSet(day, 2));
            }
        }
    }

    private static void look(String what, Long due, Check.Call call) {
        if (due == null) {
            Check.refuses(what, NO_SUCH, call);
        } else {
            Check.is(what, due, call);
        }
    }

    private static void gatherByChance(Manydays x, TreeSet<Long> due, List<TreeSet<Long>> past, Random random, int most) {
        int month = 1 + random.nextInt(12);
        int date = 1 + random.nextInt(30);
        long from = random.nextInt(100) - 50;
        long to = from + random.nextInt(most + 1);
        TreeSet<Long> then = new TreeSet<>(due);
        for (long day = from; day <= to; day++) {
            java.time.LocalDate there = java.time.LocalDate.ofEpochDay(day - 719163);
            if (there.getMonthValue() == month && there.getDayOfMonth() == date) {
                then.add(day);
            }
        }
        if (then.size() > 500) {
            Check.refuses("gather too many", STATE, () -> x.gather(0, month, date, from, to));
            return;
        }
        past.add(new TreeSet<>(due));
        due.addAll(then);
        Check.is("gather", due.size(), () -> x.gather(0, month, date, from, to));
    }
}
