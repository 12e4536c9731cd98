/** The boundary cases of the promises 33 to 35 and of the reigns of section 7, a test for each sentence. */
final class EdgeReignsTest {
    private static final String SECTION = "7. REIGNS, SETS";
    private static final String DAY_BEYOND = "Throws `IllegalStateException` if the day is out of the bounds";
    private static final String NO_REIGN = "Throws `NoSuchElementException` if the day is in no reign";
    private static final long FIRST = Edge.FIRST_DAY;
    private static final long LAST = Edge.LAST_DAY;

    private EdgeReignsTest() {
    }

    static void run() {
        reign();
        twenty();
        forgetReign();
        forgotten();
        reignAt();
        what();
        years();
    }

    private static Manydays with(long... firsts) {
        Manydays x = new Manydays();
        for (int i = 0; i < firsts.length; i++) {
            x.reign(firsts[i], 10 * (i + 1));
        }
        return x;
    }

    private static void reign() {
        String state = "Throws `IllegalStateException` if the day is out of the bounds, or there are 20";
        Edge.of(33, state, "the day");
        Edge.days("first day", d -> x -> x.reign(d, 1));
        Edge.of(33, state, "there are 19, 20");
        Edge.is("the 19th", 19, x -> States.withReigns(18).reign(5, 5));
        Edge.is("the 20th", 20, x -> States.withReigns(19).reign(5, 5));
        Edge.refuses("the 21st", Edge.STATE, () -> States.withReigns(20), x -> x.reign(5, 5));
        Edge.refuses("the 21st, the lowest day", Edge.STATE, () -> States.withReigns(20), x -> x.reign(FIRST, 5));
        Edge.refuses("the 21st, the highest day", Edge.STATE, () -> States.withReigns(20), x -> x.reign(LAST, 5));
        Edge.of(33, "Throws `IllegalArgumentException` if a reign begins on this day");
        for (long first : new long[] {-500, 100, 700000}) {
            Edge.refuses("the day " + first, Edge.ARGUMENT, x -> x.reign(first, 1));
            Edge.is("a day ahead of " + first, 2, x -> with(first).reign(first - 1, 1));
            Edge.is("a day behind " + first, 2, x -> with(first).reign(first + 1, 1));
        }
        Edge.refuses("the lowest day", Edge.ARGUMENT, () -> with(FIRST), x -> x.reign(FIRST, 1));
        Edge.refuses("the highest day", Edge.ARGUMENT, () -> with(LAST), x -> x.reign(LAST, 1));
        Edge.refuses("the same name too", Edge.ARGUMENT, x -> x.reign(100, 7));
        Edge.of(33, "`name`: any number", "the ends of int, NONE, and a name twice");
        for (int name : new int[] {Integer.MIN_VALUE, Integer.MIN_VALUE + 1, Manydays.NONE, 0, Integer.MAX_VALUE}) {
            Manydays x = new Manydays();
            Check.is("one with the name " + name, 1, () -> x.reign(5, name));
            Check.is("two with the name " + name, 2, () -> x.reign(6, name));
            Check.is("its name", (long) name, () -> x.reignAt(5, 0, 0));
            Check.is("its name, forgotten", name, () -> x.forgetReign(5));
        }
        Edge.of(33, "Returns how many reigns there are.", "from the first to the last one");
        Manydays x = new Manydays();
        for (int i = 1; i <= 20; i++) {
            int many = i;
            Check.is("reign " + i, many, () -> x.reign((many * 7 % 20) * 50, many));
        }
    }

    private static void twenty() {
        Edge.in(SECTION, "REIGNS: at most 20, each with a number (its name) and a first day", "each of 20 is kept");
        Manydays x = new Manydays();
        for (int i = 0; i < 20; i++) {
            int place = i * 7 % 20;
            x.reign(100L * place, 1000 + place);
        }
        for (int place = 0; place < 20; place++) {
            long first = 100L * place;
            long name = 1000 + place;
            Check.is("name of " + place, name, () -> x.reignAt(first, 0, 0));
            Check.is("name at the end of " + place, name, () -> x.reignAt(first + 99, 0, 0));
            Check.is("first day of " + place, first, () -> x.reignAt(first + 99, 0, 1));
            Check.is("days of " + place, name == 1019 ? -1L : 100L, () -> x.reignAt(first, 0, 3));
        }
        Edge.in(SECTION, "no two with the same first day", "free again behind forgetting");
        Check.is("one is forgotten", 1007, () -> x.forgetReign(777));
        Check.is("and told again", 20, () -> x.reign(700, 5));
        Check.refuses("and no more", Edge.STATE, () -> x.reign(701, 5));
        Edge.in(SECTION, "a day is in the reign with the latest first day that is not later",
            "told in any order; a day ahead of the first day, on it, behind");
        for (long[] order : new long[][] {{10, 20, 30}, {30, 20, 10}, {20, 30, 10}, {20, 10, 30}, {10, 30, 20}, {30, 10, 20}}) {
            Edge.refuses("a day ahead of all", Edge.NO_SUCH, () -> with(order), y -> y.reignAt(9, 0, 1));
            for (long day : new long[] {10, 11, 19, 20, 21, 29, 30, 31}) {
                Edge.is("the first day of the reign of " + day, day / 10 * 10, y -> with(order).reignAt(day, 0, 1));
            }
            Edge.is("the highest day", 30L, y -> with(order).reignAt(LAST, 0, 1));
        }
    }

    private static void forgetReign() {
        Edge.of(34, DAY_BEYOND);
        Edge.refusesLongs("day", Edge.STATE, d -> x -> x.forgetReign(d), Edge.BEYOND);
        Edge.is("the lowest day", 10, x -> with(FIRST).forgetReign(FIRST));
        Edge.is("the highest day", 10, x -> with(LAST).forgetReign(LAST));
        Edge.of(34, NO_REIGN, "there is none");
        Edge.refuses("the lowest day", Edge.NO_SUCH, Manydays::new, x -> x.forgetReign(FIRST));
        Edge.refuses("the highest day", Edge.NO_SUCH, Manydays::new, x -> x.forgetReign(LAST));
        Edge.of(34, NO_REIGN, "a day ahead of the first one");
        Edge.refuses("a day ahead", Edge.NO_SUCH, x -> x.forgetReign(-501));
        Edge.refuses("the lowest day", Edge.NO_SUCH, x -> x.forgetReign(FIRST));
        Edge.is("on it", -3, x -> States.rich().forgetReign(-500));
        Edge.of(34, NO_REIGN, "all are forgotten");
        Edge.refuses("the only one", Edge.NO_SUCH, () -> {
            Manydays x = with(100);
            x.forgetReign(100);
            return x;
        }, x -> x.forgetReign(100));
        Edge.of(34, "Returns its name.", "the first, the middle, the last of three");
        Edge.is("the first", 10, x -> with(10, 20, 30).forgetReign(19));
        Edge.is("the middle", 20, x -> with(10, 20, 30).forgetReign(20));
        Edge.is("the last", 30, x -> with(10, 20, 30).forgetReign(LAST));
    }

    private static void forgotten() {
        Edge.of(34, "Forgets the reign in which a day is.", "the first, the middle, the last; the others stay");
        for (int place = 0; place < 3; place++) {
            long first = 10 * (place + 1);
            Manydays x = with(10, 20, 30);
            x.forgetReign(first + 5);
            if (first == 10) {
                Check.refuses("the day is in none", Edge.NO_SUCH, () -> x.reignAt(15, 0, 0));
            } else {
                Check.is("the day is in the one ahead", first - 10, () -> x.reignAt(first + 5, 0, 1));
                Check.is("its name", first - 10, () -> x.reignAt(first + 5, 0, 0));
            }
            Check.is("days of the one ahead of the last", first == 30 ? -1L : first == 20 ? 20L : 10L,
                () -> x.reignAt(first == 10 ? 20 : 10 * (first / 30 + 1), 0, 3));
            for (long other = 10; other <= 30; other += 10) {
                long here = other;
                if (here != first) {
                    Check.is("the name of " + here + " stays", here, () -> x.reignAt(here, 0, 0));
                    Check.is("the first day of " + here + " stays", here, () -> x.reignAt(here, 0, 1));
                }
            }
            Check.is("there are two, and one more", 3, () -> x.reign(5, 5));
        }
        Edge.of(34, "Forgets the reign in which a day is.", "each of 20");
        for (int place = 0; place < 20; place++) {
            oneOfTwenty(place);
        }
        Edge.of(34, "Forgets the reign in which a day is.", "from 20 to none, and 20 once more");
        Manydays x = States.withReigns(20);
        for (int i = 20; i >= 1; i--) {
            Check.is("the last of " + i, x.reignAt(LAST, 0, 0), () -> (long) x.forgetReign(LAST));
        }
        Check.refuses("none is left", Edge.NO_SUCH, () -> x.forgetReign(LAST));
        for (int i = 1; i <= 20; i++) {
            int many = i;
            Check.is("again " + i, many, () -> x.reign(-many, many));
        }
        Check.refuses("and no more", Edge.STATE, () -> x.reign(0, 0));
    }

    private static void oneOfTwenty(int place) {
        Manydays x = new Manydays();
        for (int i = 0; i < 20; i++) {
            x.reign(100L * i, 1000 + i);
        }
        Check.is("the name of " + place, 1000 + place, () -> x.forgetReign(100L * place + 50));
        for (int i = 0; i < 20; i++) {
            long day = 100L * i + 99;
            int there = i == place ? i - 1 : i;
            if (there < 0) {
                Check.refuses("a day in none", Edge.NO_SUCH, () -> x.reignAt(day, 0, 0));
            } else {
                Check.is("the name on " + day, 1000L + there, () -> x.reignAt(day, 0, 0));
                Check.is("the first day of " + day, 100L * there, () -> x.reignAt(day, 0, 1));
            }
        }
    }

    private static void reignAt() {
        Edge.of(35, DAY_BEYOND);
        for (int what = 0; what <= 3; what++) {
            int w = what;
            Edge.refusesLongs("day, what " + w, Edge.STATE, d -> x -> x.reignAt(d, 0, w), Edge.BEYOND);
            Edge.takes("the lowest day, what " + w, x -> with(FIRST).reignAt(FIRST, 0, w));
            Edge.takes("the highest day, what " + w, x -> with(LAST).reignAt(LAST, 0, w));
        }
        Edge.of(35, "Throws `IndexOutOfBoundsException` if there is no such calendar");
        for (int what = 0; what <= 3; what++) {
            int w = what;
            Edge.refusesInts("calendar, what " + w, Edge.INDEX, c -> x -> x.reignAt(100, c, w),
                Integer.MIN_VALUE, -1, 19, Integer.MAX_VALUE);
            for (int calendar = 0; calendar <= 18; calendar++) {
                int c = calendar;
                Edge.takes("calendar " + c + ", what " + w, x -> with(100).reignAt(100, c, w));
            }
        }
        Edge.of(35, "Throws `IllegalArgumentException` if what is out of range");
        Edge.refusesInts("what", Edge.ARGUMENT, w -> x -> x.reignAt(100, 0, w),
            Integer.MIN_VALUE, -1, 4, Integer.MAX_VALUE);
        Edge.of(35, NO_REIGN);
        for (int what = 0; what <= 3; what++) {
            int w = what;
            Edge.refuses("no reigns, what " + w, Edge.NO_SUCH, Manydays::new, x -> x.reignAt(100, 0, w));
            Edge.refuses("a day ahead, what " + w, Edge.NO_SUCH, x -> x.reignAt(-501, 0, w));
            Edge.refuses("the lowest day, what " + w, Edge.NO_SUCH, x -> x.reignAt(FIRST, 0, w));
        }
    }

    private static void what() {
        String sentence = "`what`: 0 its name, 1 its first day, 2 the year of the reign on the day, 3 the days of the reign, "
            + "to the first day of the next one (NONE for the last reign)";
        Edge.of(35, sentence, "one reign at the ends of the bounds");
        Edge.is("its name", 10L, x -> with(FIRST).reignAt(LAST, 0, 0));
        Edge.is("its first day", FIRST, x -> with(FIRST).reignAt(LAST, 0, 1));
        Edge.is("the year of the first day", 1L, x -> with(FIRST).reignAt(FIRST, 0, 2));
        Edge.is("the year of the highest day", 1L, x -> with(LAST).reignAt(LAST, 0, 2));
        Edge.of(35, sentence, "NONE for the last reign");
        Edge.is("of one", (long) Manydays.NONE, x -> with(FIRST).reignAt(FIRST, 0, 3));
        Edge.is("of three", (long) Manydays.NONE, x -> with(30, 10, 20).reignAt(30, 0, 3));
        Edge.is("of 20", (long) Manydays.NONE, x -> States.withReigns(20).reignAt(LAST, 0, 3));
        Edge.of(35, sentence, "the shortest and the longest reign");
        Edge.is("a day", 1L, x -> with(10, 11).reignAt(10, 0, 3));
        Edge.is("all days but one", LAST - FIRST, x -> with(FIRST, LAST).reignAt(LAST - 1, 0, 3));
        Edge.is("the last day", (long) Manydays.NONE, x -> with(FIRST, LAST).reignAt(LAST, 0, 3));
    }

    private static void years() {
        String sentence = "The year of a reign on a day, in a calendar, is 1 and the greatest n for which the first day LATER "
            + "by n years is not later than the day.";
        Edge.in(SECTION, sentence, "a day ahead of a year of the reign, on it, behind");
        for (int calendar = 0; calendar <= 18; calendar++) {
            int c = calendar;
            for (int years : new int[] {1, 2, 30}) {
                long day = Oracle.of(c).later(700001, years, 0);
                Edge.is("a day ahead by " + c, (long) years, x -> with(700001).reignAt(day - 1, c, 2));
                Edge.is("on it by " + c, years + 1L, x -> with(700001).reignAt(day, c, 2));
                Edge.is("a day behind by " + c, years + 1L, x -> with(700001).reignAt(day + 1, c, 2));
            }
        }
        Edge.in(SECTION, sentence, "the longest reign");
        for (int calendar = 0; calendar <= 18; calendar++) {
            int c = calendar;
            Oracle oracle = Oracle.of(c);
            int years = oracle.years[oracle.at(LAST)] - oracle.years[oracle.at(FIRST)] - 3;
            while (oracle.later(FIRST, years + 1, 0) <= LAST) {
                years++;
            }
            long due = 1L + years;
            Edge.is("by " + c, due, x -> with(FIRST).reignAt(LAST, c, 2));
        }
    }
}
