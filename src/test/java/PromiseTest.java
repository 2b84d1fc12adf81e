import java.math.BigInteger;

/** Each promise with answers worked out by hand or known from published tables. */
public final class PromiseTest {
    private static final long[] NO_FORMATS = {-1, 10, 11, Integer.MIN_VALUE, Integer.MAX_VALUE};
    private static final long SIGN = Long.MIN_VALUE;

    public static void main(String[] args) {
        promise1NewObject();
        promise2UnpackBinary();
        promise2UnpackPlainDecimal();
        promise2UnpackDeclets();
        promise2UnpackWrong();
        promise3Canonical();
        promise3LeavesAllAtHand();
        promise4Put();
        promise5PackBinary();
        promise5PackDecimal();
        promise5PackRefuses();
        promise5PackRefusesNans();
        promise6Pattern();
        promise7Look();
        promise8Part();
        promise9Digits();
        promise10Declet();
        Due.end("PromiseTest");
    }

    private static void unpacks(int format, long high, long low, long... want) {
        PatternBook book = new PatternBook();
        // What was at hand before must leave no trace.
        book.put(3, true, 5, -1L, -1L);
        String call = "unpack(" + format + ", " + high + ", " + low + ")";
        Due.is(call, Due.unpack(book, format, high, low), want[0]);
        Due.datum(call, book, want);
    }

    private static void canonical(int format, long high, long low, boolean want) {
        String call = "canonical(" + format + ", " + high + ", " + low + ")";
        Due.is(call, Due.canonical(new PatternBook(), format, high, low), want ? 1 : 0);
    }

    private static PatternBook with(int kind, boolean negative, int exponent, long high, long low) {
        PatternBook book = new PatternBook();
        Due.is("put", book.put(kind, negative, exponent, high, low), true);
        return book;
    }

    private static void packs(PatternBook book, int format, long high, long low) {
        String call = "pack(" + format + ")";
        Due.is(call, Due.pack(book, format), 1);
        Due.pattern(call, book, high, low);
    }

    private static void refuses(PatternBook book, int format) {
        long high = book.pattern(true);
        long low = book.pattern(false);
        String call = "pack(" + format + ") of " + book.look(0) + " " + book.look(2) + " "
                + book.part(true) + " " + book.part(false);
        Due.is(call, Due.pack(book, format), 0);
        Due.pattern(call, book, high, low);
    }

    private static void promise1NewObject() {
        PatternBook book = new PatternBook();
        Due.datum("new", book, new long[] {0, 0, 0, 0, 0});
        Due.pattern("new", book, 0, 0);
        for (int format = 0; format < 4; format++) {
            refuses(book, format);
        }
        packs(book, 4, 0, 0x32800000L);
        packs(book, 7, 0, 0x22500000L);
        PatternBook other = new PatternBook();
        other.put(1, true, 0, 0, 0);
        Due.datum("another object's put", book, new long[] {0, 0, 0, 0, 0});
    }

    private static void promise2UnpackBinary() {
        unpacks(0, 0, 0x3C00, 0, 0, -10, 0, 1024);
        unpacks(0, 0, 0x8000, 0, 1, -24, 0, 0);
        unpacks(0, 0, 0x03FF, 0, 0, -24, 0, 1023);
        unpacks(0, 0, 0x0400, 0, 0, -24, 0, 1024);
        unpacks(0, 0, 0x0800, 0, 0, -23, 0, 1024);
        unpacks(0, 0, 0x7BFF, 0, 0, 5, 0, 2047);
        unpacks(0, 0, 0xFC00, 1, 1, 0, 0, 0);
        unpacks(0, 0, 0x7E00, 2, 0, 0, 0, 0);
        unpacks(0, 0, 0xFFFF, 2, 1, 0, 0, 511);
        unpacks(0, 0, 0x7DFF, 3, 0, 0, 0, 511);
        unpacks(1, 0, 0xBF800000L, 0, 1, -23, 0, 1 << 23);
        unpacks(1, 0, 0x7FC00001L, 2, 0, 0, 0, 1);
        unpacks(2, 0, 0x7FEFFFFFFFFFFFFFL, 0, 0, 971, 0, 0x1FFFFFFFFFFFFFL);
        unpacks(2, 0, 0xFFF0000000000001L, 3, 1, 0, 0, 1);
        unpacks(3, 0x3FFF000000000000L, 0, 0, 0, -112, 1L << 48, 0);
        unpacks(3, 0x0000FFFFFFFFFFFFL, -1L, 0, 0, -16494, 0xFFFFFFFFFFFFL, -1L);
        unpacks(3, 0xFFFF800000000000L, 0, 2, 1, 0, 0, 0);
        unpacks(3, 0x7FFF7FFFFFFFFFFFL, -1L, 3, 0, 0, 0x7FFFFFFFFFFFL, -1L);
        unpacks(3, 0x7FFF000000000000L, 0, 1, 0, 0, 0, 0);
        // Bits above the lowest K do not count.
        unpacks(0, -1L, 0xFFFFFFFFFFFF3C00L, 0, 0, -10, 0, 1024);
        unpacks(2, -1L, 0x3FF0000000000000L, 0, 0, -52, 0, 1L << 52);
    }

    private static void promise2UnpackPlainDecimal() {
        unpacks(4, 0, 0x32800001L, 0, 0, 0, 0, 1);
        unpacks(4, 0, 0xF7F8967FL, 0, 1, 90, 0, 9999999);
        unpacks(4, 0, 0x6018967FL, 0, 0, -101, 0, 9999999);
        // 10^7 is above what counts.
        unpacks(4, 0, 0x60189680L, 0, 0, -101, 0, 0);
        unpacks(4, 0, 0x007FFFFFL, 0, 0, -101, 0, 8388607);
        unpacks(4, 0, 0x60000000L, 0, 0, -101, 0, 8388608);
        unpacks(4, 0, 0x78000000L, 1, 0, 0, 0, 0);
        unpacks(4, 0, 0xFBFFFFFFL, 1, 1, 0, 0, 0);
        unpacks(4, 0, 0x7C0F423FL, 2, 0, 0, 0, 999999);
        unpacks(4, 0, 0x7C0F4240L, 2, 0, 0, 0, 0);
        unpacks(4, 0, 0xFE000007L, 3, 1, 0, 0, 7);
        unpacks(4, 0, 0x7DF00007L, 2, 0, 0, 0, 7);
        unpacks(5, 0, 0x31C0000000000001L, 0, 0, 0, 0, 1);
        unpacks(5, 0, 0x77FB86F26FC0FFFFL, 0, 0, 369, 0, 9999999999999999L);
        unpacks(5, 0, 0x77FB86F26FC10000L, 0, 0, 369, 0, 0);
        unpacks(5, 0, 0x7C038D7EA4C67FFFL, 2, 0, 0, 0, 999999999999999L);
        unpacks(5, 0, 0x7C038D7EA4C68000L, 2, 0, 0, 0, 0);
        unpacks(6, 0x3040000000000000L, 1, 0, 0, 0, 0, 1);
        unpacks(6, 0x0001ED09BEAD87C0L, 0x378D8E63FFFFFFFFL, 0, 0, -6176,
                0x0001ED09BEAD87C0L, 0x378D8E63FFFFFFFFL);
        unpacks(6, 0x0001ED09BEAD87C0L, 0x378D8E6400000000L, 0, 0, -6176, 0, 0);
        // Behind 11 every coefficient of format 6 is above 10^34 - 1.
        unpacks(6, 0x6000000000000000L, 0, 0, 0, -6176, 0, 0);
        unpacks(6, 0xFE00314DC6448D93L, 0x38C15B09FFFFFFFFL, 3, 1, 0,
                0x314DC6448D93L, 0x38C15B09FFFFFFFFL);
        unpacks(6, 0xFE00314DC6448D93L, 0x38C15B0A00000000L, 3, 1, 0, 0, 0);
    }

    private static void promise2UnpackDeclets() {
        unpacks(7, 0, 0x22500001L, 0, 0, 0, 0, 1);
        unpacks(7, 0, 0x77F3FCFFL, 0, 0, 90, 0, 9999999);
        unpacks(7, 0, 0xF7FFFFFFL, 0, 1, 90, 0, 9999999);
        unpacks(7, 0, 0x6C000000L, 0, 0, -37, 0, 9000000);
        unpacks(7, 0, 0x1C000000L, 0, 0, -101, 0, 7000000);
        unpacks(7, 0, 0x7C0FFFFFL, 2, 0, 0, 0, 999999);
        unpacks(7, 0, 0x7FF00009L, 3, 0, 0, 0, 9);
        unpacks(7, 0, 0x7BFFFFFFL, 1, 0, 0, 0, 0);
        unpacks(8, 0, 0x2238000000000001L, 0, 0, 0, 0, 1);
        unpacks(8, 0, 0x77FCFF3FCFF3FCFFL, 0, 0, 369, 0, 9999999999999999L);
        unpacks(9, 0x2208000000000000L, 1, 0, 0, 0, 0, 1);
        unpacks(9, -1L, -1L, 3, 1, 0, 0x314DC6448D93L, 0x38C15B09FFFFFFFFL);
        unpacks(9, 0x77FFFFFFFFFFFFFFL, -1L, 0, 0, 6111, 0x0001ED09BEAD87C0L, 0x378D8E63FFFFFFFFL);
    }

    private static void promise2UnpackWrong() {
        PatternBook book = with(2, true, 0, 3, 4);
        packs(book, 3, 0xFFFF800000000003L, 4);
        for (long format : NO_FORMATS) {
            Due.is("unpack(" + format + ")", Due.unpack(book, (int) format, 0, 0), Due.THROWS);
            Due.datum("after unpack(" + format + ")", book, new long[] {2, 1, 0, 3, 4});
        }
        Due.is("unpack", Due.unpack(book, 0, 0, 0x3C00), 0);
        Due.pattern("unpack leaves the pattern:", book, 0xFFFF800000000003L, 4);
    }

    private static void promise3Canonical() {
        canonical(0, 0, 0x7DFF, true);
        canonical(1, -1L, -1L, true);
        canonical(3, 0xFFFF000000000000L, 1, true);
        canonical(4, 0, 0x6018967FL, true);
        canonical(4, 0, 0x60189680L, false);
        canonical(4, 0, 0x78000000L, true);
        canonical(4, 0, 0x78000001L, false);
        canonical(4, 0, 0x78100000L, false);
        canonical(4, 0, 0x7A000000L, false);
        canonical(4, 0, 0xFC0F423FL, true);
        canonical(4, 0, 0xFC0F4240L, false);
        canonical(4, 0, 0x7C100000L, false);
        canonical(4, 0, 0x7D000000L, false);
        canonical(4, 0, 0x7E000000L, true);
        canonical(5, 0, 0x77FB86F26FC0FFFFL, true);
        canonical(5, 0, 0x77FB86F26FC10000L, false);
        canonical(6, 0x0001ED09BEAD87C0L, 0x378D8E63FFFFFFFFL, true);
        canonical(6, 0x0001ED09BEAD87C0L, 0x378D8E6400000000L, false);
        canonical(6, 0x6000000000000000L, 0, false);
        canonical(7, 0, 0x77F3FCFFL, true);
        canonical(7, 0, 0x77F7FCFFL, false);
        canonical(7, 0, 0x77F3FDFFL, false);
        canonical(7, 0, 0x7C0000FFL, true);
        canonical(7, 0, 0x7C0003FFL, false);
        canonical(7, 0, 0x7C1000FFL, false);
        canonical(8, 0, 0x7800000000000000L, true);
        canonical(8, 0, 0x7800000000000001L, false);
        canonical(9, 0xFE00000000000000L, 0xFF, true);
        canonical(9, 0xFE00000000000000L, 0x1FF, false);
        // Bits above the lowest K do not count.
        canonical(4, -1L, 0xFFFFFFFF32800001L, true);
        canonical(8, SIGN, 0x2238000000000001L, true);
    }

    private static void promise3LeavesAllAtHand() {
        PatternBook book = with(0, true, -3, 0, 77);
        packs(book, 4, 0, 0x80000000L | 98L << 23 | 77);
        for (int format = 0; format < 10; format++) {
            Due.canonical(book, format, -1L, -1L);
            Due.canonical(book, format, 0, 0x32800001L);
        }
        for (long format : NO_FORMATS) {
            Due.is("canonical(" + format + ")", Due.canonical(book, (int) format, 0, 0), Due.THROWS);
        }
        Due.datum("canonical", book, new long[] {0, 1, -3, 0, 77});
        Due.pattern("canonical", book, 0, 0x80000000L | 98L << 23 | 77);
    }

    private static void promise4Put() {
        Due.datum("put 0", with(0, true, Integer.MIN_VALUE, -1L, SIGN),
                new long[] {0, 1, Integer.MIN_VALUE, -1L, SIGN});
        Due.datum("put 1", with(1, true, 9, -1L, 8), new long[] {1, 1, 0, 0, 0});
        Due.datum("put 2", with(2, false, 9, 7, 8), new long[] {2, 0, 0, 7, 8});
        Due.datum("put 3", with(3, true, -9, 7, 0), new long[] {3, 1, 0, 7, 0});
        PatternBook book = with(0, true, 12, 3, 4);
        for (int kind : new int[] {-1, 4, 5, Integer.MIN_VALUE, Integer.MAX_VALUE}) {
            Due.is("put(" + kind + ")", book.put(kind, false, 1, 1, 1), false);
            Due.datum("put(" + kind + ")", book, new long[] {0, 1, 12, 3, 4});
        }
        packs(with(1, false, 9, -1L, 8), 0, 0, 0x7C00);
        Due.pattern("put leaves the pattern:", book, 0, 0);
    }

    private static void promise5PackBinary() {
        packs(with(0, true, -24, 0, 0), 0, 0, 0x8000);
        packs(with(0, false, -24, 0, 1023), 0, 0, 0x03FF);
        packs(with(0, false, -24, 0, 1024), 0, 0, 0x0400);
        packs(with(0, false, 5, 0, 2047), 0, 0, 0x7BFF);
        packs(with(0, true, -23, 0, 1 << 23), 1, 0, 0xBF800000L);
        packs(with(0, false, 971, 0, 0x1FFFFFFFFFFFFFL), 2, 0, 0x7FEFFFFFFFFFFFFFL);
        packs(with(0, true, 971, 0, 0x1FFFFFFFFFFFFFL), 2, 0, 0xFFEFFFFFFFFFFFFFL);
        packs(with(0, false, 16271, 0x1FFFFFFFFFFFFL, -1L), 3, 0x7FFEFFFFFFFFFFFFL, -1L);
        packs(with(0, false, -16494, 0, 1), 3, 0, 1);
        packs(with(1, true, 0, 0, 0), 3, 0xFFFF000000000000L, 0);
        packs(with(2, false, 0, 0, 0), 0, 0, 0x7E00);
        packs(with(2, true, 0, 0, 511), 0, 0, 0xFFFF);
        packs(with(3, true, 0, 0, 511), 0, 0, 0xFDFF);
        packs(with(3, false, 0, 0x7FFFFFFFFFFFL, -1L), 3, 0x7FFF7FFFFFFFFFFFL, -1L);
    }

    private static void promise5PackDecimal() {
        packs(with(0, false, 0, 0, 1), 4, 0, 0x32800001L);
        packs(with(0, true, 90, 0, 9999999), 4, 0, 0xF7F8967FL);
        packs(with(0, false, -101, 0, 8388607), 4, 0, 0x007FFFFFL);
        packs(with(0, false, -101, 0, 8388608), 4, 0, 0x60000000L);
        packs(with(0, false, 0, 0, 1), 5, 0, 0x31C0000000000001L);
        packs(with(0, false, 369, 0, 9999999999999999L), 5, 0, 0x77FB86F26FC0FFFFL);
        packs(with(0, false, 0, 0, 1), 6, 0x3040000000000000L, 1);
        packs(with(0, false, 0, 0, 1), 7, 0, 0x22500001L);
        packs(with(0, false, 90, 0, 9999999), 7, 0, 0x77F3FCFFL);
        packs(with(0, false, -37, 0, 9000000), 7, 0, 0x6C000000L);
        packs(with(0, false, -101, 0, 7000000), 7, 0, 0x1C000000L);
        packs(with(0, false, 0, 0, 1), 8, 0, 0x2238000000000001L);
        packs(with(0, true, 369, 0, 9999999999999999L), 8, 0, 0xF7FCFF3FCFF3FCFFL);
        packs(with(0, true, 0, 0, 1), 9, 0xA208000000000000L, 1);
        packs(with(1, true, 0, 0, 0), 6, 0xF800000000000000L, 0);
        packs(with(1, false, 0, 0, 0), 8, 0, 0x7800000000000000L);
        packs(with(2, false, 0, 0, 999999), 4, 0, 0x7C0F423FL);
        packs(with(2, false, 0, 0, 999999), 7, 0, 0x7C03FCFFL);
        packs(with(3, true, 0, 0, 0), 9, 0xFE00000000000000L, 0);
        packs(with(3, false, 0, 0x314DC6448D93L, 0x38C15B09FFFFFFFFL), 6,
                0x7E00314DC6448D93L, 0x38C15B09FFFFFFFFL);
    }

    private static void promise5PackRefuses() {
        for (int format = 0; format < 10; format++) {
            int qmin = 2 - Due.FORMATS[format][2] - Due.FORMATS[format][1];
            int qmax = Due.FORMATS[format][2] + 1 - Due.FORMATS[format][1];
            BigInteger end = BigInteger.valueOf(format < 4 ? 2 : 10)
                    .pow(Due.FORMATS[format][1]);
            BigInteger most = end.subtract(BigInteger.ONE);
            long high = most.shiftRight(64).longValue();
            long low = most.longValue();
            PatternBook book = new PatternBook();
            for (int q : new int[] {qmin, qmax}) {
                book.put(0, true, q, high, low);
                Due.is("pack(" + format + ") at exponent " + q, Due.pack(book, format), 1);
            }
            for (int q : new int[] {qmin - 1, qmax + 1, Integer.MIN_VALUE, Integer.MAX_VALUE}) {
                book.put(0, false, q, high, low);
                refuses(book, format);
            }
            book.put(0, false, qmin, end.shiftRight(64).longValue(), end.longValue());
            refuses(book, format);
            book.put(0, false, qmin, -1L, 1);
            refuses(book, format);
            book.put(0, false, qmin, SIGN, 0);
            refuses(book, format);
            book.put(0, false, qmin + 1, 0, 0);
            Due.is("pack(" + format + ") of 0 above QMIN", Due.pack(book, format), format < 4 ? 0 : 1);
            book.put(0, false, qmin + 1, 0, 1023);
            Due.is("pack(" + format + ") of 1023 above QMIN", Due.pack(book, format), format < 4 ? 0 : 1);
        }
        PatternBook book = new PatternBook();
        packs(book, 4, 0, 0x32800000L);
        for (long format : NO_FORMATS) {
            Due.is("pack(" + format + ")", Due.pack(book, (int) format), Due.THROWS);
            Due.pattern("after pack(" + format + ")", book, 0, 0x32800000L);
        }
    }

    private static void promise5PackRefusesNans() {
        for (int format = 0; format < 10; format++) {
            int places = Due.FORMATS[format][1];
            BigInteger end = format < 4 ? BigInteger.TWO.pow(places - 2)
                    : BigInteger.TEN.pow(places - 1);
            BigInteger most = end.subtract(BigInteger.ONE);
            for (int kind = 2; kind < 4; kind++) {
                PatternBook book = with(kind, true, 0, most.shiftRight(64).longValue(), most.longValue());
                Due.is("pack(" + format + ") of the greatest PAYLOAD", Due.pack(book, format), 1);
                book.put(kind, false, 0, end.shiftRight(64).longValue(), end.longValue());
                refuses(book, format);
                book.put(kind, false, 0, SIGN, 0);
                refuses(book, format);
                book.put(kind, false, 0, 0, 0);
                boolean infinity = format < 4 && kind == 3;
                Due.is("pack(" + format + ") of PAYLOAD 0", Due.pack(book, format), infinity ? 0 : 1);
            }
        }
    }

    private static void promise6Pattern() {
        PatternBook book = with(0, true, 0, 5, 6);
        Due.pattern("no pack yet:", book, 0, 0);
        packs(book, 6, 0xB040000000000005L, 6);
        Due.pattern("once more:", book, 0xB040000000000005L, 6);
        // A shorter pattern leaves nothing of a longer one.
        book.put(1, false, 0, 0, 0);
        packs(book, 0, 0, 0x7C00);
    }

    private static void promise7Look() {
        PatternBook book = with(0, true, -77, 1, 2);
        Due.is("look(0)", book.look(0), 0);
        Due.is("look(1)", book.look(1), 1);
        Due.is("look(2)", book.look(2), -77);
        for (int what : new int[] {-1, 3, 4, Integer.MIN_VALUE, Integer.MAX_VALUE}) {
            Due.is("look(" + what + ")", book.look(what), PatternBook.NONE);
        }
    }

    private static void promise8Part() {
        PatternBook book = with(0, false, 0, 0x0123456789ABCDEFL, 0xFEDCBA9876543210L);
        Due.is("part(true)", book.part(true), 0x0123456789ABCDEFL);
        Due.is("part(false)", book.part(false), 0xFEDCBA9876543210L);
        // pack() refuses or makes a pattern; the datum stays.
        packs(with(0, false, 0, 0, 12), 9, 0x2208000000000000L, 0x12);
        book.put(0, false, 0, 1, 12);
        Due.pack(book, 9);
        Due.pack(book, 7);
        Due.datum("pack", book, new long[] {0, 0, 0, 1, 12});
    }

    private static void promise9Digits() {
        PatternBook book = new PatternBook();
        // One declet of each row of the document's table, p to y.
        Due.is("digits", book.digits(0b101_011_0_111), 537);
        Due.is("digits", book.digits(0b101_011_1_001), 539);
        Due.is("digits", book.digits(0b101_101_1_010), 594);
        Due.is("digits", book.digits(0b101_011_1_101), 935);
        Due.is("digits", book.digits(0b101_001_1_110), 994);
        Due.is("digits", book.digits(0b101_011_1_111), 959);
        Due.is("digits", book.digits(0b101_100_1_111), 589);
        Due.is("digits", book.digits(0b000_110_1_111), 889);
        Due.is("digits", book.digits(0b110_110_1_111), 889);
        for (int declet : new int[] {-1, 1024, Integer.MIN_VALUE, Integer.MAX_VALUE}) {
            Due.is("digits(" + declet + ")", book.digits(declet), PatternBook.NONE);
        }
    }

    private static void promise10Declet() {
        boolean[] seen = new boolean[1024];
        for (int digits = 0; digits < 1000; digits++) {
            PatternBook book = new PatternBook();
            int declet = book.declet(digits);
            boolean inside = declet >= 0 && declet < 1024;
            Due.is("declet(" + digits + ") in range", inside, true);
            if (inside) {
                Due.is("declet(" + digits + ") is another's", seen[declet], false);
                seen[declet] = true;
                Due.is("digits(declet(" + digits + "))", book.digits(declet), digits);
                boolean free = (declet & 0b1101110) == 0b1101110;
                Due.is("declet(" + digits + ") p, q", free && declet >= 256, false);
            }
        }
        PatternBook book = new PatternBook();
        Due.is("declet(5)", book.declet(5), 5);
        Due.is("declet(79)", book.declet(79), 0x79);
        Due.is("declet(799)", book.declet(799), 0b111_101_1_111);
        for (int digits : new int[] {-1, 1000, Integer.MIN_VALUE, Integer.MAX_VALUE}) {
            Due.is("declet(" + digits + ")", book.declet(digits), PatternBook.NONE);
        }
    }
}
