/** Which exception is thrown where several apply, and that a call that throws changes nothing. */
final class EdgeOrderTest {
    private static final String PART = "2. CALENDARS";
    private static final String FIRST_LISTED =
        "If several exceptions apply to a call, the one that is listed first is thrown";
    private static final String UNCHANGED = "a call that throws an exception changes nothing";
    private static final long ABOVE = Edge.LAST_DAY + 1;

    private EdgeOrderTest() {
    }

    static void run() {
        dates();
        steps();
        feastsAndRounds();
        tape();
        reigns();
        set();
        measures();
        unchanged();
        unchangedWhenFull();
        asked();
    }

    private static void order(String call) {
        Edge.in(PART, FIRST_LISTED, call);
    }

    private static void dates() {
        order("dayOf");
        Edge.refuses("calendar, not lawful", Edge.INDEX, x -> x.dayOf(19, 20000, 13, 32));
        Edge.refuses("calendar, out of the bounds", Edge.INDEX, x -> x.dayOf(-1, 19999, 1, 1));
        Edge.refuses("not lawful, in a year out of the bounds", Edge.ARGUMENT, x -> x.dayOf(0, 19999, 13, 1));
        Edge.refuses("not lawful, as the year has not begun", Edge.ARGUMENT, x -> x.dayOf(11, 0, 1, 1));
        order("part");
        Edge.refuses("calendar, day", Edge.INDEX, x -> x.part(19, ABOVE, 0));
        Edge.refuses("calendar, what", Edge.INDEX, x -> x.part(19, 1, 4));
        Edge.refuses("all", Edge.INDEX, x -> x.part(-1, ABOVE, -1));
        Edge.refuses("day, what", Edge.STATE, x -> x.part(0, ABOVE, 4));
        order("newYear");
        Edge.refuses("calendar, year", Edge.INDEX, x -> x.newYear(19, 20000));
        Edge.refuses("no year, not begun", Edge.ARGUMENT, x -> x.newYear(11, -10000));
        order("yearLength");
        Edge.refuses("calendar, year", Edge.INDEX, x -> x.yearLength(19, 20000));
        Edge.refuses("no year, not begun", Edge.ARGUMENT, x -> x.yearLength(11, -10000));
        order("monthAt");
        Edge.refuses("calendar, year, index", Edge.INDEX, x -> x.monthAt(19, 20000, 99));
        Edge.refuses("calendar, index", Edge.INDEX, x -> x.monthAt(-1, 1, -1));
        Edge.refuses("no year, index", Edge.ARGUMENT, x -> x.monthAt(0, 20000, 99));
        Edge.refuses("no year, not begun, index", Edge.ARGUMENT, x -> x.monthAt(11, -10000, -1));
        Edge.refuses("not begun, index", Edge.STATE, x -> x.monthAt(11, 0, 13));
        Edge.refuses("not begun, index below 0", Edge.STATE, x -> x.monthAt(11, 0, -1));
        order("monthLength");
        Edge.refuses("calendar, year, month", Edge.INDEX, x -> x.monthLength(19, 20000, 99));
        Edge.refuses("no year, not begun", Edge.ARGUMENT, x -> x.monthLength(11, -10000, 1));
        Edge.refuses("no year, no month", Edge.ARGUMENT, x -> x.monthLength(0, 20000, 13));
    }

    private static void steps() {
        order("shift");
        Edge.refuses("no long, day", Edge.ARITHMETIC, x -> x.shift(Long.MAX_VALUE, 1));
        Edge.refuses("no long, day within", Edge.ARITHMETIC, x -> x.shift(1, Long.MAX_VALUE));
        Edge.refuses("no long, below", Edge.ARITHMETIC, x -> x.shift(Long.MIN_VALUE, -1));
        order("later");
        Edge.refuses("calendar, years", Edge.INDEX, x -> x.later(19, 1, 20001, 0));
        Edge.refuses("calendar, months", Edge.INDEX, x -> x.later(19, 1, 0, 1001));
        Edge.refuses("calendar, day", Edge.INDEX, x -> x.later(-1, ABOVE, 0, 0));
        Edge.refuses("years, day", Edge.ARGUMENT, x -> x.later(0, ABOVE, 20001, 0));
        Edge.refuses("months, day", Edge.ARGUMENT, x -> x.later(0, ABOVE, 0, -1001));
        Edge.refuses("months, the years are left", Edge.ARGUMENT, x -> x.later(0, 1, 20000, 1001));
        Edge.refuses("years, told out of the bounds", Edge.ARGUMENT, x -> x.later(0, Edge.LAST_DAY, 20001, 1));
        order("age");
        Edge.refuses("calendar, day", Edge.INDEX, x -> x.age(19, ABOVE, 1));
        Edge.refuses("calendar, earlier", Edge.INDEX, x -> x.age(19, 2, 1));
        Edge.refuses("from, earlier", Edge.STATE, x -> x.age(0, ABOVE, 1));
        Edge.refuses("to, earlier", Edge.STATE, x -> x.age(0, 1, Edge.FIRST_DAY - 1));
        order("ageMonths");
        Edge.refuses("calendar, day", Edge.INDEX, x -> x.ageMonths(19, ABOVE, 1));
        Edge.refuses("calendar, earlier", Edge.INDEX, x -> x.ageMonths(19, 2, 1));
        Edge.refuses("from, earlier", Edge.STATE, x -> x.ageMonths(0, ABOVE, 1));
        Edge.refuses("to, earlier", Edge.STATE, x -> x.ageMonths(0, 1, Edge.FIRST_DAY - 1));
        order("remembrance");
        Edge.refuses("calendar, day", Edge.INDEX, x -> x.remembrance(19, ABOVE, 1));
        Edge.refuses("calendar, behind", Edge.INDEX, x -> x.remembrance(-1, 1, ABOVE));
        order("near");
        Edge.refuses("day, weekday", Edge.STATE, x -> x.near(ABOVE, 0, 0));
        Edge.refuses("day, how", Edge.STATE, x -> x.near(ABOVE, 1, 5));
        Edge.refuses("day, weekday, how", Edge.STATE, x -> x.near(Edge.FIRST_DAY - 1, 8, -1));
        order("nth");
        Edge.refuses("calendar, year", Edge.INDEX, x -> x.nth(19, 20000, 1, 1, 1));
        Edge.refuses("calendar, weekday, n", Edge.INDEX, x -> x.nth(19, 1, 1, 8, 0));
        Edge.refuses("no year, not begun", Edge.ARGUMENT, x -> x.nth(11, -10000, 1, 1, 1));
        Edge.refuses("weekday, not begun", Edge.ARGUMENT, x -> x.nth(11, 0, 1, 8, 1));
        Edge.refuses("n, not begun", Edge.ARGUMENT, x -> x.nth(11, 0, 1, 1, 0));
        Edge.refuses("weekday, out of the bounds", Edge.ARGUMENT, x -> x.nth(0, 19999, 1, 0, 1));
        Edge.refuses("n, out of the bounds", Edge.ARGUMENT, x -> x.nth(0, 19999, 1, 1, 0));
        Edge.refuses("month, not so many", Edge.ARGUMENT, x -> x.nth(0, 2000, 13, 1, 9));
        Edge.refuses("weekday, not so many", Edge.ARGUMENT, x -> x.nth(0, 2000, 1, 8, 9));
        Edge.refuses("no year, not so many", Edge.ARGUMENT, x -> x.nth(0, 20000, 1, 1, 9));
        Edge.refuses("not begun, not so many", Edge.STATE, x -> x.nth(11, 0, 1, 1, 9));
    }

    private static void feastsAndRounds() {
        order("nextFeast");
        Edge.refuses("rule, day", Edge.ARGUMENT, x -> x.nextFeast(3, 0, ABOVE));
        Edge.refuses("feast, day", Edge.ARGUMENT, x -> x.nextFeast(0, 7, ABOVE));
        Edge.refuses("feast, told out of the bounds", Edge.ARGUMENT, x -> x.nextFeast(0, -1, Edge.LAST_DAY));
        order("position");
        Edge.refuses("round, day", Edge.ARGUMENT, x -> x.position(10, ABOVE));
        order("meet");
        Edge.refuses("day, round", Edge.STATE, x -> x.meet(ABOVE, 10, 1, 0, 1));
        Edge.refuses("day, position", Edge.STATE, x -> x.meet(ABOVE, 0, 8, 0, 1));
        Edge.refuses("day, other round", Edge.STATE, x -> x.meet(ABOVE, 0, 1, -1, 1));
        Edge.refuses("day, other position", Edge.STATE, x -> x.meet(ABOVE, 0, 1, 0, 0));
        Edge.refuses("day, never", Edge.STATE, x -> x.meet(ABOVE, 0, 1, 0, 2));
        Edge.refuses("position, never", Edge.ARGUMENT, x -> x.meet(1, 0, 8, 0, 2));
        Edge.refuses("other position, never", Edge.ARGUMENT, x -> x.meet(1, 0, 1, 0, 0));
        order("longCount");
        Edge.refuses("day, place", Edge.STATE, x -> x.longCount(ABOVE, 5));
        Edge.refuses("day, place below 0", Edge.STATE, x -> x.longCount(Edge.FIRST_DAY - 1, -1));
    }

    private static void tape() {
        order("far");
        Edge.refuses("calendar, no such row", Edge.INDEX, x -> x.far(19));
        Edge.refuses("no such row, calendar 2", Edge.FORMAT, x -> x.far(2));
        Edge.refuses("empty, calendar 2", Edge.FORMAT, Manydays::new, x -> x.far(2));
        Edge.refuses("61 digits, calendar 2", Edge.FORMAT, Edge.withTape("1".repeat(61)), x -> x.far(2));
        order("type");
        Edge.refuses("a byte, too long", Edge.ARGUMENT, States::fullTape, x -> x.type('a' << 8 | 31));
        Edge.refuses("a byte of 127, too long", Edge.ARGUMENT, States::fullTape, x -> x.type(127));
        order("read");
        Edge.refuses("a fault, not lawful", Edge.FORMAT, Edge.withTape("gre 2000-13-1 x"), Manydays::read);
        Edge.refuses("a fault, out of the bounds", Edge.FORMAT, Edge.withTape("gre 19999-1-1-"), Manydays::read);
        Edge.refuses("not lawful, in a year out of the bounds", Edge.NO_SUCH, Edge.withTape("gre 19999-13-1"), Manydays::read);
        order("write");
        Edge.refuses("calendar, day", Edge.INDEX, x -> x.write(19, ABOVE));
        order("table");
        Edge.refuses("calendar, year", Edge.INDEX, x -> x.table(19, 0, 20000, 1));
        Edge.refuses("other, year", Edge.INDEX, x -> x.table(0, 19, 20000, 1));
        Edge.refuses("other, month", Edge.INDEX, x -> x.table(0, -1, 2000, 13));
        Edge.refuses("other, not begun", Edge.INDEX, x -> x.table(11, 19, 0, 1));
        Edge.refuses("other, out of the bounds", Edge.INDEX, x -> x.table(0, 19, 19999, 1));
        Edge.refuses("no year, not begun", Edge.ARGUMENT, x -> x.table(11, 0, -10000, 1));
        Edge.refuses("no month, out of the bounds", Edge.ARGUMENT, x -> x.table(0, 0, 19999, 13));
    }

    private static void reigns() {
        order("reign");
        Edge.refuses("day, 20 reigns", Edge.STATE, () -> States.withReigns(20), x -> x.reign(ABOVE, 1));
        Edge.refuses("20 reigns, the same day", Edge.STATE, () -> States.withReigns(20), x -> x.reign(100, 1));
        order("forgetReign");
        Edge.refuses("day, no reign", Edge.STATE, Manydays::new, x -> x.forgetReign(ABOVE));
        Edge.refuses("day below, no reign", Edge.STATE, x -> x.forgetReign(Edge.FIRST_DAY - 1));
        order("reignAt");
        Edge.refuses("day, calendar", Edge.STATE, x -> x.reignAt(ABOVE, 19, 0));
        Edge.refuses("day, what", Edge.STATE, x -> x.reignAt(ABOVE, 0, 4));
        Edge.refuses("day, no reign", Edge.STATE, x -> x.reignAt(Edge.FIRST_DAY - 1, 0, 0));
        Edge.refuses("all", Edge.STATE, Manydays::new, x -> x.reignAt(ABOVE, -1, -1));
        Edge.refuses("calendar, what", Edge.INDEX, x -> x.reignAt(100, 19, 4));
        Edge.refuses("calendar, no reign", Edge.INDEX, Manydays::new, x -> x.reignAt(100, 19, 0));
        Edge.refuses("what, no reign", Edge.ARGUMENT, Manydays::new, x -> x.reignAt(100, 0, 4));
    }

    private static void set() {
        order("gather");
        Edge.refuses("calendar, day", Edge.INDEX, x -> x.gather(19, 1, 1, ABOVE, 5));
        Edge.refuses("calendar, span", Edge.INDEX, x -> x.gather(19, 1, 1, 5, 4));
        Edge.refuses("calendar, too many", Edge.INDEX, States::fullSet, x -> x.gather(19, 7, 7, 0, 40000));
        Edge.refuses("from, earlier", Edge.STATE, x -> x.gather(0, 1, 1, ABOVE, 5));
        Edge.refuses("to, earlier", Edge.STATE, x -> x.gather(0, 1, 1, 5, Edge.FIRST_DAY - 1));
        Edge.refuses("to, more than 40000 later", Edge.STATE, x -> x.gather(0, 1, 1, 5, ABOVE));
        Edge.refuses("greatest and least", Edge.STATE, x -> x.gather(0, 1, 1, Long.MIN_VALUE, Long.MAX_VALUE));
        Edge.refuses("span, too many", Edge.ARGUMENT, States::fullSet, x -> x.gather(0, 7, 7, 0, 40001));
        order("toggle");
        Edge.refuses("day, full", Edge.STATE, States::fullSet, x -> x.toggle(ABOVE));
        order("ofSet");
        Edge.refuses("how, none", Edge.ARGUMENT, Manydays::new, x -> x.ofSet(0, 3));
        Edge.refuses("how below 0, none", Edge.ARGUMENT, Manydays::new, x -> x.ofSet(Long.MAX_VALUE, -1));
    }

    private static void measures() {
        order("meanYear");
        Edge.refuses("calendar, years", Edge.INDEX, x -> x.meanYear(19, 1, 0));
        Edge.refuses("calendar, from", Edge.INDEX, x -> x.meanYear(-1, 20000, 1));
        Edge.refuses("years, not begun", Edge.ARGUMENT, x -> x.meanYear(11, 0, 401));
        Edge.refuses("years 0, not begun", Edge.ARGUMENT, x -> x.meanYear(11, -5, 0));
        Edge.refuses("no year, not begun", Edge.ARGUMENT, x -> x.meanYear(11, -10000, 1));
        Edge.refuses("no year, some not begun", Edge.ARGUMENT, x -> x.meanYear(11, -10001, 400));
        order("passed");
        Edge.refuses("calendar, day", Edge.INDEX, x -> x.passed(19, ABOVE));
    }

    private static void unchanged() {
        Edge.in(PART, UNCHANGED, "the tape");
        Edge.Maker tape = Edge.withTape("12345");
        Edge.refuses("type", Edge.ARGUMENT, tape, x -> x.type('a' << 8 | 200));
        Edge.refuses("far", Edge.ARGUMENT, tape, x -> x.far(2));
        Edge.refuses("far by no calendar", Edge.INDEX, tape, x -> x.far(19));
        Edge.refuses("far without a row", Edge.FORMAT, Edge.withTape("12 345"), x -> x.far(0));
        Edge.refuses("read", Edge.FORMAT, tape, Manydays::read);
        Edge.refuses("write", Edge.STATE, tape, x -> x.write(0, ABOVE));
        Edge.refuses("write by no calendar", Edge.INDEX, tape, x -> x.write(19, 1));
        Edge.refuses("table", Edge.STATE, tape, x -> x.table(0, 0, 19999, 1));
        Edge.refuses("table of a part", Edge.STATE, tape, x -> x.table(0, 0, x.part(0, Edge.LAST_DAY, 0), x.part(0, Edge.LAST_DAY, 1)));
        Edge.refuses("table by no other", Edge.INDEX, tape, x -> x.table(0, 19, 2000, 1));
        Edge.refuses("table of no month", Edge.ARGUMENT, tape, x -> x.table(0, 0, 2000, 13));
        Edge.refuses("signAt", Edge.INDEX, tape, x -> x.signAt(5));
        Edge.in(PART, UNCHANGED, "the reigns");
        Edge.refuses("reign", Edge.STATE, x -> x.reign(ABOVE, 1));
        Edge.refuses("reign of the same day", Edge.ARGUMENT, x -> x.reign(-500, 1));
        Edge.refuses("forgetReign", Edge.STATE, x -> x.forgetReign(ABOVE));
        Edge.refuses("forgetReign without one", Edge.NO_SUCH, x -> x.forgetReign(-501));
        Edge.refuses("reignAt", Edge.NO_SUCH, x -> x.reignAt(-501, 0, 0));
        Edge.in(PART, UNCHANGED, "the set, and what can be undone");
        Edge.refuses("gather", Edge.ARGUMENT, x -> x.gather(0, 1, 1, 0, 40001));
        Edge.refuses("gather out of the bounds", Edge.STATE, x -> x.gather(0, 1, 1, Edge.LAST_DAY, ABOVE));
        Edge.refuses("gather by no calendar", Edge.INDEX, x -> x.gather(19, 1, 1, 0, 400));
        Edge.refuses("sift", Edge.ARGUMENT, x -> x.sift(0, 8));
        Edge.refuses("sift by no round", Edge.ARGUMENT, x -> x.sift(10, 1));
        Edge.refuses("toggle", Edge.STATE, x -> x.toggle(ABOVE));
        Edge.refuses("ofSet", Edge.NO_SUCH, x -> x.ofSet(ABOVE, 1));
        Edge.refuses("undo", Edge.NO_SUCH, EdgeOrderTest::allUndone, Manydays::undo);
        Edge.in(PART, UNCHANGED, "the change");
        Edge.refuses("setChange", Edge.ARGUMENT, x -> x.setChange(740001));
        Edge.refuses("setChange below", Edge.ARGUMENT, x -> x.setChange(499999));
    }

    private static Manydays allUndone() {
        Manydays x = States.rich();
        for (int i = 0; i < 10; i++) {
            x.undo();
        }
        return x;
    }

    private static void unchangedWhenFull() {
        Edge.in(PART, UNCHANGED, "a full tape, 20 reigns, 500 days");
        Edge.refuses("type", Edge.STATE, States::fullTape, x -> x.type('a'));
        Edge.refuses("type, the bytes that would fit", Edge.STATE, EdgeOrderTest::almostFullTape,
            x -> x.type('a' << 16 | 'b' << 8 | 'c'));
        Edge.refuses("reign", Edge.STATE, () -> States.withReigns(20), x -> x.reign(5, 5));
        Edge.refuses("toggle", Edge.STATE, States::fullSet, x -> x.toggle(2000000));
        Edge.refuses("gather", Edge.STATE, States::fullSet, x -> x.gather(0, 7, 7, 0, 40000));
        Edge.refuses("gather, the days that would fit", Edge.STATE, EdgeOrderTest::almostFullSet,
            x -> x.gather(0, 7, 7, 0, 40000));
        Edge.refuses("sift", Edge.ARGUMENT, States::fullSet, x -> x.sift(9, 61));
    }

    private static Manydays almostFullTape() {
        Manydays x = new Manydays();
        TapeTest.put(x, "abcdefgh".repeat(249) + "abcdef");
        return x;
    }

    private static Manydays almostFullSet() {
        Manydays x = States.fullSet();
        x.toggle(1);
        x.toggle(2);
        return x;
    }

    private static void asked() {
        Edge.in("Not promised", "Nothing is promised beyond the answers and state changes described above",
            "calls that only ask leave all as it was");
        Edge.Act[] acts = {x -> x.dayOf(2, 1582, 10, 15), x -> x.isLawful(2, 1582, 10, 10), x -> x.part(2, 600000, 3),
            x -> x.newYear(2, 1643), x -> x.yearLength(2, 1643), x -> x.monthAt(2, 1643, 11), x -> x.monthLength(2, 1643, 10),
            x -> x.shift(5, 5), x -> x.later(2, 600000, 1, 1), x -> x.age(2, 5, 600000), x -> x.ageMonths(2, 5, 600000),
            x -> x.remembrance(2, 5, 600000), x -> x.near(5, 5, 2), x -> x.nth(2, 1643, 10, 5, 1), x -> x.feast(2, 2000, 3),
            x -> x.nextFeast(2, 3, 5), x -> x.position(3, 5), x -> x.again(1023), x -> x.meet(5, 0, 1, 1, 1),
            x -> x.longCount(5, 4), x -> x.moon(5), x -> x.drift(0, true), x -> x.signAt(0), Manydays::fault, Manydays::read,
            x -> x.reignAt(100, 2, 2), x -> x.ofSet(100, 1), x -> x.meanYear(2, 1600, 400), x -> x.passed(2, 600000),
            x -> x.errors(600000)};
        for (int i = 0; i < acts.length; i++) {
            Edge.leaves("call " + i, acts[i]);
        }
    }
}
