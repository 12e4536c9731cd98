import java.util.NoSuchElementException;
import java.util.Set;
import java.util.TreeSet;

/**
 * Tests of single sentences of the document that name a boundary case. Each one bears its sentence and the part of the
 * document that it stands in (QuotesTest looks it up there). What is refused is also looked at from behind: the object
 * must answer all that one can ask it as another one does that was never asked.
 */
final class Edge {
    static final Class<IndexOutOfBoundsException> INDEX = IndexOutOfBoundsException.class;
    static final Class<IllegalArgumentException> ARGUMENT = IllegalArgumentException.class;
    static final Class<IllegalStateException> STATE = IllegalStateException.class;
    static final Class<NoSuchElementException> NO_SUCH = NoSuchElementException.class;
    static final Class<NumberFormatException> FORMAT = NumberFormatException.class;
    static final Class<ArithmeticException> ARITHMETIC = ArithmeticException.class;
    static final long FIRST_DAY = -1000000;
    static final long LAST_DAY = 3000000;
    /** Beyond the bounds; the last ones would be within them if they were cut down to an int. */
    static final long[] BEYOND = {FIRST_DAY - 1, LAST_DAY + 1, Integer.MIN_VALUE, Integer.MAX_VALUE, Long.MIN_VALUE,
        Long.MIN_VALUE + 1, Long.MAX_VALUE - 1, Long.MAX_VALUE, 1L << 32, (1L << 32) + 730120, -(1L << 32) + 5};

    interface Act {
        Object on(Manydays x);
    }

    interface Maker {
        Manydays made();
    }

    interface OfInt {
        Act with(int number);
    }

    interface OfLong {
        Act with(long number);
    }

    /** The part of the document, a bar, and the sentence. */
    static final Set<String> QUOTES = new TreeSet<>();

    private Edge() {
    }

    /** Begins the test of a sentence of a promise. */
    static void of(int promise, String sentence) {
        begin("Promise " + promise, sentence, "");
    }

    /** The same, of one of the cases that the sentence names. */
    static void of(int promise, String sentence, String which) {
        begin("Promise " + promise, sentence, ": " + which);
    }

    /** Begins the test of a sentence of the terms, or of another part. */
    static void in(String part, String sentence) {
        begin(part, sentence, "");
    }

    static void in(String part, String sentence, String which) {
        begin(part, sentence, ": " + which);
    }

    private static void begin(String part, String sentence, String which) {
        QUOTES.add(part + "|" + sentence);
        Check.group(part + ", \"" + sentence + "\"" + which);
    }

    /** Asks a new object. */
    static void is(String what, Object due, Act act) {
        Check.is(what, due, () -> act.on(new Manydays()));
    }

    static void takes(String what, Act act) {
        takes(what, Manydays::new, act);
    }

    /** That a call is not refused; what it answers is another test's. */
    static void takes(String what, Maker maker, Act act) {
        String got = Check.textOf(() -> act.on(maker.made()));
        Check.holds(what + " is taken, not " + got, !got.startsWith("throws."));
    }

    static void refuses(String what, Class<? extends RuntimeException> kind, Act act) {
        refuses(what, kind, States::rich, act);
    }

    static void refuses(String what, Class<? extends RuntimeException> kind, Maker maker, Act act) {
        Manydays asked = maker.made();
        Check.refuses(what, kind, () -> act.on(asked));
        Check.is(what + ", and nothing is changed", States.tell(maker.made()), () -> States.tell(asked));
    }

    /** That a call, whatever it answers, leaves all as it was. */
    static void leaves(String what, Act act) {
        Manydays asked = States.rich();
        String got = Check.textOf(() -> act.on(asked));
        Check.holds(what + " is taken, not " + got, !got.startsWith("throws."));
        Check.is(what + " leaves all as it was", States.tell(States.rich()), () -> States.tell(asked));
    }

    static void refusesInts(String what, Class<? extends RuntimeException> kind, OfInt call, int... numbers) {
        for (int number : numbers) {
            refuses(what + " " + number, kind, call.with(number));
        }
    }

    static void refusesLongs(String what, Class<? extends RuntimeException> kind, OfLong call, long... numbers) {
        for (long number : numbers) {
            refuses(what + " " + number, kind, call.with(number));
        }
    }

    /** That the numbers from low to high are taken, and those beside and far from them refused. */
    static void range(String what, Class<? extends RuntimeException> kind, int low, int high, OfInt call) {
        refusesInts(what, kind, call, Integer.MIN_VALUE, low - 1, high + 1, Integer.MAX_VALUE);
        for (int number : new int[] {low, low + 1, high - 1, high}) {
            if (number >= low && number <= high) {
                takes(what + " " + number, call.with(number));
            }
        }
    }

    static void calendars(OfInt call) {
        refusesInts("calendar", INDEX, call, Integer.MIN_VALUE, -19, -2, -1, 19, 20, 256, 65536, Integer.MAX_VALUE);
        for (int calendar = 0; calendar <= 18; calendar++) {
            takes("calendar " + calendar, call.with(calendar));
        }
    }

    /** The days at the ends of the bounds are taken, those beyond refused. */
    static void days(String what, OfLong call) {
        refusesLongs(what, STATE, call, BEYOND);
        takes(what + " " + FIRST_DAY, call.with(FIRST_DAY));
        takes(what + " " + LAST_DAY, call.with(LAST_DAY));
    }

    /** The call behind another one, whose answer is no matter here. */
    static Act after(Act first, Act act) {
        return x -> {
            first.on(x);
            return act.on(x);
        };
    }

    static Act withChange(long change, Act act) {
        return after(x -> x.setChange(change), act);
    }

    static Maker withTape(String text) {
        return () -> {
            Manydays x = States.rich();
            x.wipe();
            TapeTest.put(x, text);
            return x;
        };
    }
}
