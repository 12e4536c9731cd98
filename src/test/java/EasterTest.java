import java.util.Random;

/** Promises 17 and 18. */
final class EasterTest {
    private static final Class<IllegalArgumentException> ARGUMENT = IllegalArgumentException.class;
    private static final Class<IllegalStateException> STATE = IllegalStateException.class;
    private static final int[] BEHIND = {-46, -7, -2, 0, 39, 49, 60};
    /** Years with month and day of Easter by 0 and 1. */
    private static final int[][] KNOWN = {{1818, 3, 22}, {1900, 4, 15}, {1943, 4, 25}, {1954, 4, 18}, {1961, 4, 2},
        {1981, 4, 19}, {2000, 4, 23}, {2008, 3, 23}, {2024, 3, 31}, {2025, 4, 20}, {2038, 4, 25}, {2285, 3, 22}};
    /** Years with month and day, in 0, of Easter by 2. */
    private static final int[][] OLD = {{2000, 4, 30}, {2008, 4, 27}, {2016, 5, 1}, {2021, 5, 2}, {2023, 4, 16},
        {2024, 5, 5}, {2025, 4, 20}};

    private EasterTest() {
    }

    static void run() {
        feast();
        nextFeast();
    }

    /** Easter by 2 in another way than the document's. */
    private static long oldEaster(int year) {
        int d = (19 * (year % 19) + 15) % 30;
        int e = (2 * (year % 4) + 4 * (year % 7) - d + 34) % 7;
        int month = (d + e + 114) / 31;
        int date = (d + e + 114) % 31 + 1;
        Oracle julian = Oracle.of(1);
        return julian.starts[julian.firstOf(year) + month - 1] + date - 1;
    }

    private static long easter(Supply supply, int rule, int year) {
        return supply.get().feast(rule, year, 3);
    }

    private static void feast() {
        Check.promise(17, "feast");
        Manydays x = new Manydays();
        Check.refuses("rule -1", ARGUMENT, () -> x.feast(-1, 2000, 3));
        Check.refuses("rule 3", ARGUMENT, () -> x.feast(3, 2000, 3));
        Check.refuses("year 0", ARGUMENT, () -> x.feast(0, 0, 3));
        Check.refuses("year 10000", ARGUMENT, () -> x.feast(0, 10000, 3));
        Check.refuses("least year", ARGUMENT, () -> x.feast(2, Integer.MIN_VALUE, 3));
        Check.refuses("feast -1", ARGUMENT, () -> x.feast(0, 2000, -1));
        Check.refuses("feast 7", ARGUMENT, () -> x.feast(0, 2000, 7));
        for (int[] row : KNOWN) {
            long due = Oracle.gregorian(row[0], row[1], row[2]);
            Check.is("Easter by 0 of " + row[0], due, () -> x.feast(0, row[0], 3));
            Check.is("Easter by 1 of " + row[0], due, () -> x.feast(1, row[0], 3));
        }
        for (int[] row : OLD) {
            Check.is("Easter by 2 of " + row[0], Oracle.gregorian(row[0], row[1], row[2]), () -> x.feast(2, row[0], 3));
        }
        for (int rule = 0; rule <= 2; rule++) {
            int r = rule;
            for (int feast = 0; feast <= 6; feast++) {
                int f = feast;
                long easter = x.feast(r, 2001, 3);
                Check.is("feast " + f + " by " + r, easter + BEHIND[f], () -> x.feast(r, 2001, f));
            }
            Check.holds("out of the bounds", x.feast(r, 9999, 3) > 3000000);
        }
        Supply supply = new Supply();
        for (int year = 1; year <= 9999; year++) {
            Check.holds("rules 0 and 1 of " + year, easter(supply, 0, year) == easter(supply, 1, year));
            Check.holds("rule 2 of " + year, easter(supply, 2, year) == oldEaster(year));
        }
    }

    private static void nextFeast() {
        Check.promise(18, "nextFeast");
        Manydays x = new Manydays();
        Check.refuses("rule", ARGUMENT, () -> x.nextFeast(3, 0, 3000001));
        Check.refuses("rule -1", ARGUMENT, () -> x.nextFeast(-1, 0, 1));
        Check.refuses("feast", ARGUMENT, () -> x.nextFeast(0, 7, 3000001));
        Check.refuses("feast -1", ARGUMENT, () -> x.nextFeast(0, -1, 1));
        Check.refuses("day above", STATE, () -> x.nextFeast(0, 0, 3000001));
        Check.refuses("day below", STATE, () -> x.nextFeast(0, 0, -1000001));
        for (int rule = 0; rule <= 2; rule++) {
            int r = rule;
            for (int feast = 0; feast <= 6; feast++) {
                int f = feast;
                long first = x.feast(r, 1, f);
                long second = x.feast(r, 2, f);
                Check.is("of all years " + r + " " + f, first, () -> x.nextFeast(r, f, -1000000));
                Check.is("a day ahead " + r + " " + f, first, () -> x.nextFeast(r, f, first - 1));
                Check.is("on it " + r + " " + f, second, () -> x.nextFeast(r, f, first));
                Check.refuses("the told day is above " + r + " " + f, STATE, () -> x.nextFeast(r, f, 3000000));
            }
        }
        Check.is("from January 1", Oracle.gregorian(2024, 3, 31), () -> x.nextFeast(0, 3, Oracle.gregorian(2024, 1, 1)));
        Check.is("from Easter", Oracle.gregorian(2025, 4, 20), () -> x.nextFeast(1, 3, Oracle.gregorian(2024, 3, 31)));
        Supply supply = new Supply();
        Random random = new Random(18);
        for (int rule = 0; rule <= 2; rule++) {
            for (int feast = 0; feast <= 6; feast++) {
                long[] days = new long[10000];
                for (int year = 1; year <= 9999; year++) {
                    days[year] = supply.get().feast(rule, year, feast);
                }
                days[0] = Long.MIN_VALUE;
                for (int i = 0; i < 400; i++) {
                    search(supply, rule, feast, random.nextInt(4000001) - 1000000, days);
                    long near = days[1 + random.nextInt(8200)] + random.nextInt(3) - 1;
                    search(supply, rule, feast, near, days);
                }
            }
        }
    }

    private static void search(Supply supply, int rule, int feast, long day, long[] days) {
        long due = 0;
        for (int year = 1; year <= 9999 && due == 0; year++) {
            due = days[year] > day ? days[year] : 0;
        }
        String what = "next " + rule + " " + feast + " " + day;
        if (due > 3000000) {
            Check.refuses(what, STATE, () -> supply.get().nextFeast(rule, feast, day));
        } else {
            Check.is(what, due, () -> supply.get().nextFeast(rule, feast, day));
        }
    }
}
