import java.math.BigInteger;

/** What the edge tests ask. Patterns are texts of bits in the document's order, blanks left out. */
final class Edge {
    static final int NUMBER = 0;
    static final int INFINITY = 1;
    static final int QUIET = 2;
    static final int SIGNALLING = 3;

    /** By format; worked out by hand from the document's bounds. */
    static final int[] QMIN = {-24, -149, -1074, -16494, -101, -398, -6176, -101, -398, -6176};
    static final int[] QMAX = {5, 104, 971, 16271, 90, 369, 6111, 90, 369, 6111};

    static final int[] NO_FORMATS = {-1, 10, Integer.MIN_VALUE, Integer.MAX_VALUE};
    static final BigInteger ZERO = BigInteger.ZERO;
    static final BigInteger ONE = BigInteger.ONE;
    static final BigInteger FULL = power(2, 128).subtract(ONE);

    private Edge() {
    }

    static BigInteger power(int base, int exponent) {
        return BigInteger.valueOf(base).pow(exponent);
    }

    static BigInteger below(BigInteger one) {
        return one.subtract(ONE);
    }

    static String zeros(int count) {
        return "0".repeat(count);
    }

    static String ones(int count) {
        return "1".repeat(count);
    }

    static String bits(BigInteger value, int count) {
        String text = value.toString(2);
        return zeros(count - text.length()) + text;
    }

    static long high(BigInteger value) {
        return value.shiftRight(64).longValue();
    }

    private static BigInteger value(int format, String pattern) {
        String text = pattern.replace(" ", "");
        if (text.length() != Due.FORMATS[format][0]) {
            throw new IllegalArgumentException("not a pattern of format " + format + ": " + pattern);
        }
        return new BigInteger(text, 2);
    }

    private static long[] datum(int kind, int sign, int exponent, BigInteger body) {
        return new long[] {kind, sign, exponent, high(body), body.longValue()};
    }

    static PatternBook with(int kind, int sign, int exponent, BigInteger body) {
        PatternBook book = new PatternBook();
        Due.is("put(" + kind + ")", book.put(kind, sign == 1, exponent, high(body), body.longValue()), true);
        return book;
    }

    /** unpack() makes this of the pattern, whatever was at hand. */
    static void reads(int format, String pattern, int kind, int sign, int exponent, BigInteger body) {
        BigInteger value = value(format, pattern);
        String call = "unpack(" + format + ", " + pattern + ")";
        for (int before = NUMBER; before <= SIGNALLING; before++) {
            PatternBook book = with(before, 1 - sign, 77, FULL);
            Due.is(call, Due.unpack(book, format, high(value), value.longValue()), kind);
            Due.datum(call, book, datum(kind, sign, exponent, body));
        }
    }

    /** pack() makes the pattern of this, whatever pattern was at hand. */
    static void makes(int format, String pattern, int kind, int sign, int exponent, BigInteger body) {
        BigInteger value = value(format, pattern);
        String call = "pack(" + format + ") for " + pattern;
        PatternBook fresh = with(kind, sign, exponent, body);
        Due.is(call, Due.pack(fresh, format), 1);
        Due.pattern(call, fresh, high(value), value.longValue());
        Due.datum(call, fresh, datum(kind, sign, exponent, body));
        PatternBook used = withFullPattern();
        used.put(kind, sign == 1, exponent, high(body), body.longValue());
        Due.is(call, Due.pack(used, format), 1);
        Due.pattern(call, used, high(value), value.longValue());
    }

    static void isCanonical(int format, String pattern, boolean want) {
        BigInteger value = value(format, pattern);
        Due.is("canonical(" + format + ", " + pattern + ")",
                Due.canonical(new PatternBook(), format, high(value), value.longValue()), want ? 1 : 0);
    }

    /** The pattern that is made of a datum: it is read as that, and it is CANONICAL. */
    static void is(int format, String pattern, int kind, int sign, int exponent, BigInteger body) {
        reads(format, pattern, kind, sign, exponent, body);
        makes(format, pattern, kind, sign, exponent, body);
        isCanonical(format, pattern, true);
    }

    /** is() with either sign, for a pattern without its sign. */
    static void isSigned(int format, String rest, int kind, int exponent, BigInteger body) {
        is(format, "0" + rest, kind, 0, exponent, body);
        is(format, "1" + rest, kind, 1, exponent, body);
    }

    /** A pattern without its sign that is read as a datum and never made. */
    static void isOnlyRead(int format, String rest, int kind, int exponent, BigInteger body) {
        for (int sign = 0; sign < 2; sign++) {
            reads(format, sign + rest, kind, sign, exponent, body);
            isCanonical(format, sign + rest, false);
        }
    }

    /** pack() answers false, and the datum and the pattern at hand stay. */
    static void refuses(int format, int kind, int exponent, BigInteger body) {
        for (int sign = 0; sign < 2; sign++) {
            PatternBook book = withFullPattern();
            long high = book.pattern(true);
            long low = book.pattern(false);
            book.put(kind, sign == 1, exponent, high(body), body.longValue());
            String call = "pack(" + format + ") of " + kind + ", " + exponent + ", " + body;
            Due.is(call, Due.pack(book, format), 0);
            Due.pattern(call, book, high, low);
            Due.datum(call, book, datum(kind, sign, exponent, body));
        }
    }

    /** A book with the pattern at hand of which all bits are 1. */
    private static PatternBook withFullPattern() {
        PatternBook book = with(QUIET, 1, 0, below(power(2, 111)));
        Due.is("pack(3) of the full pattern", Due.pack(book, 3), 1);
        Due.pattern("the full one:", book, -1L, -1L);
        return book;
    }
}
