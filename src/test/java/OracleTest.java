import java.math.BigDecimal;
import java.math.BigInteger;
import java.util.HashSet;
import java.util.Random;
import java.util.Set;

/** Very many patterns and data, always the same ones, against the oracle and Java's own floats. */
public final class OracleTest {
    private static final Random CHANCE = new Random(754);

    public static void main(String[] args) {
        allDeclets();
        allOfFormat0();
        for (int format = 0; format < 10; format++) {
            for (int i = 0; i < 20000; i++) {
                somePattern(format);
                someDatum(format);
            }
        }
        for (int i = 0; i < 5000; i++) {
            javaFloats();
        }
        longRun();
        Due.end("OracleTest");
    }

    private static void allDeclets() {
        for (int declet = 0; declet < 1024; declet++) {
            PatternBook book = new PatternBook();
            String bits = Integer.toBinaryString(declet + 1024).substring(1);
            int digits = Integer.parseInt(Oracle.digits(bits));
            Due.is("digits(" + declet + ")", book.digits(declet), digits);
            if (Oracle.isMade(bits)) {
                Due.is("declet(" + digits + ")", book.declet(digits), declet);
            }
        }
    }

    /** All patterns are read, and no datum near theirs is made that none of them is. */
    private static void allOfFormat0() {
        Set<String> data = new HashSet<>();
        for (int pattern = 0; pattern < 65536; pattern++) {
            Oracle want = Oracle.of(0, 0, pattern);
            data.add(want.kind + " " + want.exponent + " " + want.body);
            check(0, 0, pattern);
        }
        for (int exponent = -26; exponent < 8; exponent++) {
            for (int body = 0; body < 2100; body++) {
                for (int kind = 0; kind < 4; kind++) {
                    PatternBook book = new PatternBook();
                    book.put(kind, false, exponent, 0, body);
                    String one = book.look(0) + " " + book.look(2) + " " + book.part(false);
                    Due.is("pack(0) of " + one, book.pack(0), data.contains(one));
                }
            }
        }
    }

    /** unpack(), canonical(), and pack() back to the pattern that is made. */
    private static void check(int format, long high, long low) {
        Oracle want = Oracle.of(format, high, low);
        PatternBook book = new PatternBook();
        String call = "unpack(" + format + ", " + high + ", " + low + ")";
        Due.is("canonical of " + call, book.canonical(format, high, low), want.canonical);
        Due.is(call, book.unpack(format, high, low), want.kind);
        long[] datum = {want.kind, want.sign, want.exponent,
            want.body.shiftRight(64).longValue(), want.body.longValue()};
        Due.datum(call, book, datum);
        Due.is("pack after " + call, book.pack(format), true);
        madeOf(call, format, book, datum);
        if (want.canonical) {
            int bits = Due.FORMATS[format][0];
            Due.pattern("pack after " + call, book, bits == 128 ? high : 0,
                    bits < 64 ? low & ((1L << bits) - 1) : low);
        }
    }

    /** The pattern at hand is canonical, the datum's own, and 0 above its bits. */
    private static void madeOf(String call, int format, PatternBook book, long[] datum) {
        long high = book.pattern(true);
        long low = book.pattern(false);
        Oracle made = Oracle.of(format, high, low);
        Due.is("made: canonical, " + call, made.canonical, true);
        Due.is("made: kind, " + call, made.kind, datum[0]);
        Due.is("made: sign, " + call, made.sign, datum[1]);
        Due.is("made: exponent, " + call, made.exponent, datum[2]);
        Due.is("made: high, " + call, made.body.shiftRight(64).longValue(), datum[3]);
        Due.is("made: low, " + call, made.body.longValue(), datum[4]);
        int bits = Due.FORMATS[format][0];
        Due.is("made: above, " + call, (bits < 128 ? high : 0) | (bits < 64 ? low >>> bits : 0), 0);
        Due.datum("made: datum stays, " + call, book, datum);
    }

    private static void somePattern(int format) {
        BigInteger pattern = new BigInteger(128, CHANCE);
        int bits = Due.FORMATS[format][0];
        // Chance alone would seldom meet the special heads, and hardly ever clean tails.
        if (CHANCE.nextInt(3) == 0) {
            pattern = pattern.or(BigInteger.valueOf(0b11110 + CHANCE.nextInt(2)).shiftLeft(bits - 6));
        }
        if (CHANCE.nextInt(3) == 0) {
            pattern = pattern.shiftRight(CHANCE.nextInt(bits)).shiftLeft(CHANCE.nextInt(bits));
        }
        if (CHANCE.nextInt(4) == 0) {
            pattern = nearLimit(format, bits);
        }
        if (CHANCE.nextInt(4) == 0) {
            pattern = pattern.mod(BigInteger.ONE.shiftLeft(bits));
        }
        check(format, pattern.shiftRight(64).longValue(), pattern.longValue());
    }

    private static BigInteger nearLimit(int format, int bits) {
        int places = Due.FORMATS[format][1];
        BigInteger limit = BigInteger.valueOf(format < 4 ? 2 : 10).pow(places - CHANCE.nextInt(3));
        limit = limit.add(BigInteger.valueOf(CHANCE.nextInt(5) - 2));
        return limit.or(BigInteger.valueOf(CHANCE.nextInt(128)).shiftLeft(bits - 7));
    }

    /** pack() of data in and out of range, refused just where the document says. */
    private static void someDatum(int format) {
        int places = Due.FORMATS[format][1];
        int greatest = Due.FORMATS[format][2];
        int kind = CHANCE.nextInt(3) == 0 ? 1 + CHANCE.nextInt(3) : 0;
        int exponent = CHANCE.nextInt(2) == 0 ? CHANCE.nextInt(2 * greatest) + Oracle.qmin(format)
                : (CHANCE.nextBoolean() ? Oracle.qmin(format) : greatest + 1 - places) + CHANCE.nextInt(5) - 2;
        BigInteger body = someBody(format, places);
        boolean negative = CHANCE.nextBoolean();
        PatternBook book = new PatternBook();
        book.put(kind, negative, exponent, body.shiftRight(64).longValue(), body.longValue());
        String call = "pack(" + format + ") of " + kind + ", " + exponent + ", " + body;
        boolean want = has(format, kind, exponent, body);
        Due.is(call, book.pack(format), want);
        if (want) {
            long[] datum = {kind, negative ? 1 : 0, kind == 0 ? exponent : 0,
                kind == 1 ? 0 : body.shiftRight(64).longValue(), kind == 1 ? 0 : body.longValue()};
            madeOf(call, format, book, datum);
        } else {
            Due.pattern(call, book, 0, 0);
        }
    }

    private static BigInteger someBody(int format, int places) {
        BigInteger limit = BigInteger.valueOf(format < 4 ? 2 : 10).pow(places);
        switch (CHANCE.nextInt(4)) {
            case 0:
                return new BigInteger(CHANCE.nextInt(129), CHANCE);
            case 1:
                return limit.shiftRight(CHANCE.nextInt(3)).add(BigInteger.valueOf(CHANCE.nextInt(5) - 2));
            case 2:
                return BigInteger.valueOf(format < 4 ? 2 : 10).pow(places - 1)
                        .add(BigInteger.valueOf(CHANCE.nextInt(5) - 2));
            default:
                return new BigInteger(128, CHANCE).mod(limit);
        }
    }

    private static boolean has(int format, int kind, int exponent, BigInteger body) {
        int places = Due.FORMATS[format][1];
        BigInteger radix = BigInteger.valueOf(format < 4 ? 2 : 10);
        if (kind == 1) {
            return true;
        }
        if (kind > 1) {
            BigInteger end = radix.pow(format < 4 ? places - 2 : places - 1);
            return body.compareTo(end) < 0 && !(format < 4 && kind == 3 && body.signum() == 0);
        }
        int qmin = Oracle.qmin(format);
        int qmax = Due.FORMATS[format][2] + 1 - places;
        boolean small = body.compareTo(radix.pow(places - 1)) < 0;
        return body.compareTo(radix.pow(places)) < 0 && exponent >= qmin && exponent <= qmax
                && !(format < 4 && small && exponent != qmin);
    }

    private static void javaFloats() {
        PatternBook book = new PatternBook();
        long wide = CHANCE.nextLong();
        double value = Double.longBitsToDouble(wide);
        if (book.unpack(2, 0, wide) == 0) {
            Due.is("double " + value, same(book, new BigDecimal(value)), true);
        } else {
            Due.is("double " + value + " is finite", Double.isFinite(value), false);
        }
        int narrow = CHANCE.nextInt();
        float single = Float.intBitsToFloat(narrow);
        if (book.unpack(1, 0, narrow) == 0) {
            Due.is("float " + single, same(book, new BigDecimal(single)), true);
        } else {
            Due.is("float " + single + " is finite", Float.isFinite(single), false);
        }
    }

    private static boolean same(PatternBook book, BigDecimal value) {
        BigDecimal got = BigDecimal.valueOf(book.part(false));
        int exponent = book.look(2);
        BigDecimal power = new BigDecimal(BigInteger.TWO.pow(Math.abs(exponent)));
        // Multiplying the other side keeps both exact.
        BigDecimal left = exponent < 0 ? got : got.multiply(power);
        BigDecimal right = exponent < 0 ? value.abs().multiply(power) : value.abs();
        return left.compareTo(right) == 0;
    }

    /** One object through all of its 512 calls: nothing of an earlier call shows in a later one. */
    private static void longRun() {
        PatternBook book = new PatternBook();
        for (int i = 0; i < 64; i++) {
            int format = CHANCE.nextInt(10);
            long high = CHANCE.nextLong();
            long low = CHANCE.nextLong();
            Oracle want = Oracle.of(format, high, low);
            book.canonical(CHANCE.nextInt(10), low, high);
            Due.is("run unpack", book.unpack(format, high, low), want.kind);
            Due.is("run exponent", book.look(2), want.exponent);
            Due.is("run part", book.part(false), want.body.longValue());
            Due.is("run pack", book.pack(format), true);
            book.canonical(CHANCE.nextInt(10), low, high);
            Oracle made = Oracle.of(format, book.pattern(true), book.pattern(false));
            Due.is("run made", made.body.equals(want.body) && made.canonical, true);
        }
    }
}
