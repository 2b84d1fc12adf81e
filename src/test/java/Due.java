/** What all tests share: answers against those that are due. A boolean counts 1 or 0. */
final class Due {
    static final long THROWS = Long.MIN_VALUE + 11;

    /** K, P and E of each format. */
    static final int[][] FORMATS = {
        {16, 11, 15}, {32, 24, 127}, {64, 53, 1023}, {128, 113, 16383},
        {32, 7, 96}, {64, 16, 384}, {128, 34, 6144},
        {32, 7, 96}, {64, 16, 384}, {128, 34, 6144},
    };

    private static int wrong = 0;
    private static int asked = 0;
    private static String place = "";

    private Due() {
    }

    /** The case that the next answers belong to, told with each wrong one. */
    static void begin(String name) {
        place = name + ": ";
    }

    static int asked() {
        return asked;
    }

    static void is(String call, long got, long want) {
        asked++;
        if (got != want) {
            wrong++;
            // A broken class would answer wrongly so often that nobody reads it all.
            if (wrong <= 100) {
                System.out.println(place + call + " answered " + got + ", due is " + want);
            }
        }
    }

    static void is(String call, boolean got, boolean want) {
        is(call, got ? 1 : 0, want ? 1 : 0);
    }

    /** THROWS if the call threw just the exception that the document names. */
    static long unpack(PatternBook book, int format, long high, long low) {
        try {
            return book.unpack(format, high, low);
        } catch (IndexOutOfBoundsException e) {
            return e.getClass() == IndexOutOfBoundsException.class ? THROWS : THROWS + 1;
        }
    }

    static long canonical(PatternBook book, int format, long high, long low) {
        try {
            return book.canonical(format, high, low) ? 1 : 0;
        } catch (IndexOutOfBoundsException e) {
            return e.getClass() == IndexOutOfBoundsException.class ? THROWS : THROWS + 1;
        }
    }

    static long pack(PatternBook book, int format) {
        try {
            return book.pack(format) ? 1 : 0;
        } catch (IndexOutOfBoundsException e) {
            return e.getClass() == IndexOutOfBoundsException.class ? THROWS : THROWS + 1;
        }
    }

    static void datum(String after, PatternBook book, long[] want) {
        is(after + " look(0)", book.look(0), want[0]);
        is(after + " look(1)", book.look(1), want[1]);
        is(after + " look(2)", book.look(2), want[2]);
        is(after + " part(true)", book.part(true), want[3]);
        is(after + " part(false)", book.part(false), want[4]);
    }

    static void pattern(String after, PatternBook book, long high, long low) {
        is(after + " pattern(true)", book.pattern(true), high);
        is(after + " pattern(false)", book.pattern(false), low);
    }

    static void end(String name) {
        System.out.println(name + ": " + asked + " answers, " + wrong + " not as due");
        if (wrong != 0 || asked == 0) {
            System.exit(1);
        }
    }
}
