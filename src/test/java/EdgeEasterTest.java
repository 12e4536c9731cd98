/** The boundary cases of the promises 17 and 18 and of the section 4, a test for each sentence. */
final class EdgeEasterTest {
    private static final String EASTER = "4. EASTER";
    private static final int[] BEHIND = {-46, -7, -2, 0, 39, 49, 60};

    private EdgeEasterTest() {
    }

    static void run() {
        feast();
        nextFeast();
        nextFeastBeyond();
        nextFeastFirst();
        nextFeastBeside();
        rule0();
        rule1();
        rule2();
        feasts();
    }

    private static void feast() {
        String sentence = "Throws `IllegalArgumentException` if rule, year or feast is out of range";
        Edge.of(17, sentence, "rule");
        Edge.range("rule", Edge.ARGUMENT, 0, 2, r -> x -> x.feast(r, 2000, 3));
        Edge.of(17, sentence, "year");
        for (int rule = 0; rule <= 2; rule++) {
            int r = rule;
            Edge.range("year of " + r, Edge.ARGUMENT, 1, 9999, y -> x -> x.feast(r, y, 3));
        }
        Edge.of(17, sentence, "feast");
        for (int rule = 0; rule <= 2; rule++) {
            int r = rule;
            Edge.range("feast of " + r, Edge.ARGUMENT, 0, 6, f -> x -> x.feast(r, 2000, f));
        }
        Edge.of(17, "`rule`: 0 to 2");
        Edge.is("0", Oracle.gregorian(2024, 3, 31), x -> x.feast(0, 2024, 3));
        Edge.is("1", Oracle.gregorian(2024, 3, 31), x -> x.feast(1, 2024, 3));
        Edge.is("2", Oracle.gregorian(2024, 5, 5), x -> x.feast(2, 2024, 3));
        Edge.of(17, "`year`: 1 to 9999");
        for (int year : new int[] {1, 2, 9998, 9999}) {
            Edge.is("rule 0 of " + year, due(0, year), x -> x.feast(0, year, 3));
            Edge.is("rule 1 of " + year, due(0, year), x -> x.feast(1, year, 3));
            Edge.is("rule 2 of " + year, due(2, year), x -> x.feast(2, year, 3));
        }
        Edge.of(17, "`feast`: 0 to 6");
        for (int rule = 0; rule <= 2; rule++) {
            int r = rule;
            Edge.is("the first one by " + r, due(r, 1) - 46, x -> x.feast(r, 1, 0));
            Edge.is("the last one by " + r, due(r, 9999) + 60, x -> x.feast(r, 9999, 6));
        }
        Edge.of(17, "Returns its day; it can be out of the bounds.");
        for (int rule = 0; rule <= 2; rule++) {
            int r = rule;
            for (int feast = 0; feast <= 6; feast++) {
                int f = feast;
                for (int year = 8213; year <= 8215; year++) {
                    int y = year;
                    Edge.is("feast " + f + " of " + y + " by " + r, due(r, y) + BEHIND[f], x -> x.feast(r, y, f));
                }
            }
            Check.holds("the last one is above", due(r, 9999) > Edge.LAST_DAY);
        }
    }

    /** Easter as the document's section 4 tells it, in steps of its own; the rules 0 and 1 agree. */
    private static long due(int rule, int year) {
        int a = year % 19;
        int c = year / 100 + 1;
        int e = rule == 2 ? (14 + 11 * a) % 30 : Math.floorMod(14 + 11 * a - 3 * c / 4 + (5 + 8 * c) / 25, 30);
        if (rule != 2 && (e == 0 || e == 1 && a > 10)) {
            e++;
        }
        Oracle oracle = Oracle.of(rule == 2 ? 1 : 0);
        long day = oracle.starts[oracle.firstOf(year) + 3] + 18 - e + 1;
        while (Math.floorMod(day, 7L) != 0) {
            day++;
        }
        return day;
    }

    private static void nextFeast() {
        String sentence = "Throws `IllegalArgumentException` if rule or feast is out of range";
        Edge.of(18, sentence, "rule");
        Edge.range("rule", Edge.ARGUMENT, 0, 2, r -> x -> x.nextFeast(r, 3, 730120));
        Edge.of(18, sentence, "feast");
        Edge.range("feast", Edge.ARGUMENT, 0, 6, f -> x -> x.nextFeast(0, f, 730120));
        Edge.of(18, "`rule`: 0 to 2");
        Edge.is("0", due(0, 2000), x -> x.nextFeast(0, 3, 730120));
        Edge.is("1", due(0, 2000), x -> x.nextFeast(1, 3, 730120));
        Edge.is("2", due(2, 2000), x -> x.nextFeast(2, 3, 730120));
        Edge.of(18, "`feast`: 0 to 6");
        Edge.is("0", due(0, 2000) - 46, x -> x.nextFeast(0, 0, 730120));
        Edge.is("6", due(2, 2000) + 60, x -> x.nextFeast(2, 6, 730120));
    }

    private static void nextFeastBeyond() {
        String beyond = "Throws `IllegalStateException` if day, or the one that is told, is out of the bounds";
        Edge.of(18, beyond, "day");
        for (int rule = 0; rule <= 2; rule++) {
            int r = rule;
            Edge.refusesLongs("day by " + r, Edge.STATE, d -> x -> x.nextFeast(r, 3, d), Edge.BEYOND);
            Edge.takes("the lowest day by " + r, x -> x.nextFeast(r, 3, Edge.FIRST_DAY));
        }
        Edge.of(18, beyond, "the one that is told");
        for (int rule = 0; rule <= 2; rule++) {
            int r = rule;
            for (int feast = 0; feast <= 6; feast++) {
                int f = feast;
                long last = lastWithin(r, f);
                Edge.is("the last one, feast " + f + " by " + r, last, x -> x.nextFeast(r, f, last - 1));
                Edge.refuses("on it, feast " + f + " by " + r, Edge.STATE, x -> x.nextFeast(r, f, last));
                Edge.refuses("the highest day, feast " + f + " by " + r, Edge.STATE, x -> x.nextFeast(r, f, Edge.LAST_DAY));
            }
        }
    }

    private static void nextFeastFirst() {
        Edge.of(18, "Returns the least day of this feast, of the years 1 to 9999, that is later.", "the first one of all");
        for (int rule = 0; rule <= 2; rule++) {
            int r = rule;
            for (int feast = 0; feast <= 6; feast++) {
                int f = feast;
                long first = due(r, 1) + BEHIND[f];
                long second = due(r, 2) + BEHIND[f];
                for (long day : new long[] {Edge.FIRST_DAY, -400, -1, 0, 1, first - 1}) {
                    Edge.is("behind " + day + ", feast " + f + " by " + r, day < first ? first : second,
                        x -> x.nextFeast(r, f, day));
                }
                Edge.is("on it, feast " + f + " by " + r, second, x -> x.nextFeast(r, f, first));
                Edge.is("a day behind, feast " + f + " by " + r, second, x -> x.nextFeast(r, f, first + 1));
            }
        }
    }

    private static void nextFeastBeside() {
        Edge.of(18, "Returns the least day of this feast, of the years 1 to 9999, that is later.", "the days beside a feast");
        for (int rule = 0; rule <= 2; rule++) {
            int r = rule;
            for (int feast = 0; feast <= 6; feast++) {
                int f = feast;
                for (int year : new int[] {1582, 2000, 2038, 8200}) {
                    long here = due(r, year) + BEHIND[f];
                    long next = due(r, year + 1) + BEHIND[f];
                    Edge.is("ahead of " + year + ", feast " + f + " by " + r, here, x -> x.nextFeast(r, f, here - 1));
                    Edge.is("on " + year + ", feast " + f + " by " + r, next, x -> x.nextFeast(r, f, here));
                }
            }
        }
        Edge.of(18, "that is later", "the first and the last day of a year");
        for (int rule = 0; rule <= 2; rule++) {
            int r = rule;
            for (int year : new int[] {2, 1582, 2000, 8000}) {
                long first = Oracle.gregorian(year, 1, 1);
                for (long day : new long[] {first - 1, first}) {
                    for (int feast : new int[] {0, 3, 6}) {
                        Edge.is("feast " + feast + " behind " + day + " by " + r, nextDue(r, feast, day, year),
                            x -> x.nextFeast(r, feast, day));
                    }
                }
            }
        }
    }

    private static long nextDue(int rule, int feast, long day, int year) {
        int y = Math.max(1, year - 2);
        while (due(rule, y) + BEHIND[feast] <= day) {
            y++;
        }
        return due(rule, y) + BEHIND[feast];
    }

    private static long lastWithin(int rule, int feast) {
        int year = 8220;
        while (due(rule, year) + BEHIND[feast] > Edge.LAST_DAY) {
            year--;
        }
        return due(rule, year) + BEHIND[feast];
    }

    private static void is(int rule, int year, long due) {
        Edge.is("Easter of " + year, due, x -> x.feast(rule, year, 3));
    }

    private static void rule0() {
        String sentence = "if e is 0, or e is 1 and a greater than 10, it becomes 1 more";
        Edge.in(EASTER, sentence, "e is 0");
        corrected(0, 0, 18, true);
        Edge.in(EASTER, sentence, "e is 1, a is 10 or less");
        corrected(1, 0, 10, false);
        Edge.in(EASTER, sentence, "e is 1, a is 11 or more");
        corrected(1, 11, 18, true);
        Edge.in(EASTER, "Easter is the first Sunday behind April 19 of y of the calendar 0 less e days",
            "if that day is a Sunday, a week behind it");
        int seen = 0;
        for (int year = 1900; year < 2100; year++) {
            int a = year % 19;
            int e = epact(year);
            long day = Oracle.gregorian(year, 4, 19) - (e == 0 || e == 1 && a > 10 ? e + 1 : e);
            seen += onOrAheadOfSunday(0, year, day);
        }
        Check.holds("there are such years", seen > 20);
        Edge.in(EASTER, "c the quotient of y by 100, rounded down, and 1", "the first and the last years of all centuries");
        centuries(0);
        Edge.in(EASTER, "By the rule 0", "the earliest and the latest Easter");
        is(0, 1818, Oracle.gregorian(1818, 3, 22));
        is(0, 2285, Oracle.gregorian(2285, 3, 22));
        is(0, 1943, Oracle.gregorian(1943, 4, 25));
        is(0, 2038, Oracle.gregorian(2038, 4, 25));
    }

    /** Tests the year if its full moon, as the document tells it, is a Sunday or the day ahead; answers 1 then. */
    private static int onOrAheadOfSunday(int rule, int year, long moon) {
        int weekday = (int) Math.floorMod(moon, 7L);
        if (weekday != 0 && weekday != 6) {
            return 0;
        }
        is(rule, year, weekday == 0 ? moon + 7 : moon + 1);
        return 1;
    }

    /** The e of the rule 0 ahead of its correction. */
    private static int epact(int year) {
        int c = year / 100 + 1;
        return Math.floorMod(14 + 11 * (year % 19) - 3 * c / 4 + (5 + 8 * c) / 25, 30);
    }

    /** Years with this e, one for each a from low to high that has any; the day of Easter shows the correction. */
    private static void corrected(int e, int low, int high, boolean isMore) {
        int seen = 0;
        boolean isBeside = false;
        for (int a = low; a <= high; a++) {
            for (int year = 1; year <= 9999; year++) {
                long moon = Oracle.gregorian(year, 4, 19) - e;
                if (year % 19 == a && epact(year) == e && Math.floorMod(moon, 7L) == 0) {
                    // This day is a Sunday itself: if e becomes 1 more, Easter is here, and else a week behind it.
                    is(0, year, isMore ? moon : moon + 7);
                    seen++;
                    isBeside |= a == 10 || a == 11;
                    break;
                }
            }
        }
        Check.holds("there are such years, one with an a of 10 or 11", seen > 4 && isBeside);
    }

    private static void rule1() {
        Edge.in(EASTER, "m the quotient of a + 11 * h + 22 * l by 451", "where it is 1, and just not");
        int limits = 0;
        for (int year = 1; year <= 9999; year++) {
            int sum = sumOfM(year);
            if (sum >= 449 && sum <= 452) {
                is(1, year, due(0, year));
                limits |= sum == 450 ? 1 : sum == 451 ? 2 : 0;
            }
        }
        Check.holds("there are such years", limits == 3);
        Edge.in(EASTER, "b and c the quotient and the rest of y by 100", "the first and the last years of all centuries");
        centuries(1);
        Edge.in(EASTER, "Easter is in the month that is the quotient of n by 31", "March 31 and April 1");
        int ends = 0;
        for (int year = 1900; year < 2100; year++) {
            int y = year;
            long due = due(0, year);
            if (due == Oracle.gregorian(year, 3, 31) || due == Oracle.gregorian(year, 4, 1)
                    || due == Oracle.gregorian(year, 3, 30) || due == Oracle.gregorian(year, 4, 2)) {
                Edge.is("Easter of " + year, due, x -> x.feast(1, y, 3));
                ends++;
            }
        }
        Check.holds("there are such years", ends > 20);
        Edge.in(EASTER, "By the rule 1", "the earliest and the latest Easter");
        for (int[] row : new int[][] {{1818, 3, 22}, {1943, 4, 25}, {2285, 3, 22}, {2038, 4, 25}}) {
            Edge.is("Easter of " + row[0], Oracle.gregorian(row[0], row[1], row[2]), x -> x.feast(1, row[0], 3));
        }
    }

    /** Easter of the years beside each century's end, and of as many behind it as it takes for each place among 19. */
    private static void centuries(int rule) {
        for (int century = 0; century <= 99; century++) {
            for (int place = -1; place <= 19; place++) {
                int year = 100 * century + place;
                if (year >= 1) {
                    is(rule, year, due(0, year));
                }
            }
        }
        for (int year = 9981; year <= 9999; year++) {
            is(rule, year, due(0, year));
        }
    }

    /** What the rule 1 divides by 451. */
    private static int sumOfM(int year) {
        int a = year % 19;
        int b = year / 100;
        int f = (b + 8) / 25;
        int h = (19 * a + b - b / 4 - (b - f + 1) / 3 + 15) % 30;
        int l = (32 + 2 * (b % 4) + 2 * (year % 100 / 4) - h - year % 4) % 7;
        return a + 11 * h + 22 * l;
    }

    private static void rule2() {
        Edge.in(EASTER, "By the rule 2: e is the rest of 14 + 11 * a by 30", "all rests of the year by 19");
        for (int year = 1990; year < 2010; year++) {
            int y = year;
            Edge.is("Easter of " + year, due(2, y), x -> x.feast(2, y, 3));
        }
        Edge.in(EASTER, "Easter is the first Sunday behind April 19 of y of the calendar 1 less e days",
            "if that day is a Sunday, a week behind it");
        int seen = 0;
        Oracle julian = Oracle.of(1);
        for (int year = 1; year < 300; year++) {
            long april19 = julian.starts[julian.firstOf(year) + 3] + 18;
            seen += onOrAheadOfSunday(2, year, april19 - (14 + 11 * (year % 19)) % 30);
        }
        Check.holds("there are such years", seen > 20);
    }

    private static void feasts() {
        Edge.in(EASTER, "FEASTS, by days behind Easter: 0 -46, 1 -7, 2 -2, 3 0, 4 39, 5 49, 6 60.");
        for (int rule = 0; rule <= 2; rule++) {
            int r = rule;
            for (int feast = 0; feast <= 6; feast++) {
                int f = feast;
                Edge.is("feast " + f + " by " + r, due(r, 2024) + BEHIND[f], x -> x.feast(r, 2024, f));
            }
        }
    }
}
