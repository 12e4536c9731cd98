/** Objects with something in each of their parts, and all that can be asked of an object, told as one text. */
final class States {
    private States() {
    }

    /** A tape, another change, some reigns, some days in the set, and ten of its changes to undo. */
    static Manydays rich() {
        Manydays x = new Manydays();
        x.setChange(600000);
        TapeTest.put(x, "gre 2000-1-1");
        x.reign(100, 7);
        x.reign(-500, -3);
        x.reign(700000, 12);
        for (long day = 1; day <= 9; day++) {
            x.toggle(100 * day);
        }
        x.toggle(300);
        x.gather(0, 1, 1, 730120, 731000);
        x.sift(8, x.position(8, 100));
        x.toggle(-7);
        return x;
    }

    static Manydays withReigns(int many) {
        Manydays x = rich();
        for (int i = 3; i < many; i++) {
            x.reign(1000 + 100 * i, i);
        }
        return x;
    }

    /** A set with 500 days, 110 January firsts, seconds, thirds and fourths, and 60 fifths, from the day 0 on. */
    static Manydays fullSet() {
        Manydays x = new Manydays();
        for (int date = 1; date <= 4; date++) {
            x.gather(0, 1, date, 0, 40000);
        }
        x.gather(0, 1, 5, 0, 365 * 60 + 10);
        return x;
    }

    static Manydays fullTape() {
        Manydays x = rich();
        x.wipe();
        TapeTest.put(x, "abcdefgh".repeat(250));
        return x;
    }

    /** At most some 230 calls, which change the object: it is no good behind this. */
    static String tell(Manydays x) {
        StringBuilder text = new StringBuilder();
        tape(x, text);
        reigns(x, text);
        text.append(" set");
        set(x, text, 40);
        for (int i = 0; i < 11; i++) {
            String more = Check.textOf(x::undo);
            text.append(" undo ").append(more);
            if (more.startsWith("throws")) {
                break;
            }
            set(x, text, 8);
        }
        text.append(" change ").append(x.setChange(577736));
        return text.toString();
    }

    private static void tape(Manydays x, StringBuilder text) {
        text.append("tape ");
        for (int i = 0; i < 20; i++) {
            int at = i;
            text.append(Check.textOf(() -> x.signAt(at))).append(' ');
        }
        text.append(Check.textOf(() -> x.signAt(1999))).append(' ').append(Check.textOf(x::fault));
        text.append(' ').append(x.wipe());
    }

    private static void reigns(Manydays x, StringBuilder text) {
        text.append(" reigns");
        long day = 3000000;
        for (int i = 0; i < 21; i++) {
            long at = day;
            String first = Check.textOf(() -> x.reignAt(at, 0, 1));
            if (first.startsWith("throws")) {
                break;
            }
            text.append(' ').append(first).append(':').append(Check.textOf(() -> x.reignAt(at, 0, 0)));
            day = Long.parseLong(first) - 1;
        }
        text.append(' ').append(Check.textOf(() -> x.reign(2999999, 1)));
    }

    private static void set(Manydays x, StringBuilder text, int most) {
        text.append(' ').append(x.ofSet(0, 0)).append(':');
        long day = Long.MIN_VALUE;
        for (int i = 0; i < most; i++) {
            long at = day;
            String found = Check.textOf(() -> x.ofSet(at, 1));
            if (found.startsWith("throws")) {
                break;
            }
            text.append(' ').append(found);
            day = Long.parseLong(found) + 1;
        }
        text.append(" to ").append(Check.textOf(() -> x.ofSet(Long.MAX_VALUE, 2)));
    }
}
