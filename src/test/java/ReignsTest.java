import java.util.Map;
import java.util.NoSuchElementException;
import java.util.Random;
import java.util.TreeMap;

/** Promises 33 to 35. */
final class ReignsTest {
    private static final Class<IndexOutOfBoundsException> INDEX = IndexOutOfBoundsException.class;
    private static final Class<IllegalArgumentException> ARGUMENT = IllegalArgumentException.class;
    private static final Class<IllegalStateException> STATE = IllegalStateException.class;
    private static final Class<NoSuchElementException> NO_SUCH = NoSuchElementException.class;

    private ReignsTest() {
    }

    static void run() {
        reign();
        forgetReign();
        reignAt();
        for (int seed = 0; seed < 40; seed++) {
            random(seed);
        }
    }

    private static void reign() {
        Check.promise(33, "reign");
        Manydays x = new Manydays();
        Check.refuses("day above", STATE, () -> x.reign(3000001, 1));
        Check.refuses("day below", STATE, () -> x.reign(-1000001, 1));
        Check.is("one", 1, () -> x.reign(100, 7));
        Check.refuses("the same day", ARGUMENT, () -> x.reign(100, 8));
        Check.is("its name stays", 7L, () -> x.reignAt(100, 0, 0));
        Check.is("two, with the same name", 2, () -> x.reign(50, 7));
        for (int i = 3; i <= 20; i++) {
            int n = i;
            Check.is("reign " + n, n, () -> x.reign(1000 - n, -n));
        }
        Check.refuses("21", STATE, () -> x.reign(5, 5));
        Check.refuses("21 goes ahead of the same day", STATE, () -> x.reign(100, 5));
        Check.is("the bounds", 1, () -> new Manydays().reign(-1000000, Integer.MIN_VALUE));
        Check.is("the bounds above", 1, () -> new Manydays().reign(3000000, Integer.MAX_VALUE));
    }

    private static void forgetReign() {
        Check.promise(34, "forgetReign");
        Manydays x = new Manydays();
        Check.refuses("day above", STATE, () -> x.forgetReign(3000001));
        Check.refuses("day below", STATE, () -> x.forgetReign(-1000001));
        Check.refuses("none", NO_SUCH, () -> x.forgetReign(5));
        x.reign(100, 1);
        x.reign(200, 2);
        x.reign(300, 3);
        Check.refuses("ahead of all", NO_SUCH, () -> x.forgetReign(99));
        Check.is("the middle one", 2, () -> x.forgetReign(299));
        Check.is("is in the one ahead then", 1L, () -> x.reignAt(299, 0, 0));
        Check.is("the last one", 3, () -> x.forgetReign(3000000));
        Check.is("the first one", 1, () -> x.forgetReign(100));
        Check.refuses("none is left", NO_SUCH, () -> x.forgetReign(3000000));
        Check.is("its day is free again", 1, () -> x.reign(100, 9));
        Check.is("least name", 2, () -> x.reign(500, Integer.MIN_VALUE));
        Check.is("least name, forgotten", Integer.MIN_VALUE, () -> x.forgetReign(500));
    }

    private static void reignAt() {
        Check.promise(35, "reignAt");
        Manydays x = new Manydays();
        Check.refuses("day first", STATE, () -> x.reignAt(3000001, 19, 4));
        Check.refuses("day below", STATE, () -> x.reignAt(-1000001, 0, 0));
        Check.refuses("calendar", INDEX, () -> x.reignAt(5, 19, 4));
        Check.refuses("calendar -1", INDEX, () -> x.reignAt(5, -1, 0));
        Check.refuses("what 4", ARGUMENT, () -> x.reignAt(5, 0, 4));
        Check.refuses("what -1", ARGUMENT, () -> x.reignAt(5, 0, -1));
        Check.refuses("no reign", NO_SUCH, () -> x.reignAt(5, 0, 0));
        long heisei = Oracle.gregorian(1989, 1, 8);
        long reiwa = Oracle.gregorian(2019, 5, 1);
        x.reign(reiwa, 5);
        x.reign(heisei, -4);
        Check.refuses("ahead of all", NO_SUCH, () -> x.reignAt(heisei - 1, 0, 0));
        Check.is("name", -4L, () -> x.reignAt(heisei, 0, 0));
        Check.is("name, to the last day", -4L, () -> x.reignAt(reiwa - 1, 0, 0));
        Check.is("the next name", 5L, () -> x.reignAt(reiwa, 0, 0));
        Check.is("first day", heisei, () -> x.reignAt(heisei + 500, 0, 1));
        Check.is("year 1", 1L, () -> x.reignAt(heisei, 0, 2));
        Check.is("year 1, to its end", 1L, () -> x.reignAt(Oracle.gregorian(1990, 1, 7), 0, 2));
        Check.is("year 2", 2L, () -> x.reignAt(Oracle.gregorian(1990, 1, 8), 0, 2));
        Check.is("year 31", 31L, () -> x.reignAt(reiwa - 1, 0, 2));
        Check.is("in another calendar", 1L + x.age(7, heisei, reiwa - 1), () -> x.reignAt(reiwa - 1, 7, 2));
        Check.is("days", reiwa - heisei, () -> x.reignAt(heisei + 5, 3, 3));
        Check.is("days of the last one", -1L, () -> x.reignAt(reiwa + 5, 3, 3));
    }

    private static void random(int seed) {
        Check.promise(35, "reigns by chance");
        Random random = new Random(seed);
        Manydays x = new Manydays();
        TreeMap<Long, Integer> due = new TreeMap<>();
        for (int i = 0; i < 120; i++) {
            long day = random.nextInt(60) * 100;
            if (random.nextInt(3) > 0) {
                int name = random.nextInt();
                if (due.size() == 20) {
                    Check.refuses("full", STATE, () -> x.reign(day, name));
                } else if (due.containsKey(day)) {
                    Check.refuses("twice", ARGUMENT, () -> x.reign(day, name));
                } else {
                    due.put(day, name);
                    Check.is("reign", due.size(), () -> x.reign(day, name));
                }
            }
            long at = day + random.nextInt(201) - 100;
            Map.Entry<Long, Integer> there = due.floorEntry(at);
            if (there == null) {
                Check.refuses("no reign", NO_SUCH, () -> x.reignAt(at, 0, 0));
                Check.refuses("no reign to forget", NO_SUCH, () -> x.forgetReign(at));
                continue;
            }
            Long next = due.higherKey(at);
            Check.is("name", (long) there.getValue(), () -> x.reignAt(at, 0, 0));
            Check.is("days", next == null ? -1L : next - there.getKey(), () -> x.reignAt(at, 0, 3));
            if (random.nextInt(4) == 0) {
                due.remove(there.getKey());
                Check.is("forgotten", there.getValue(), () -> x.forgetReign(at));
            }
        }
    }
}
