import java.math.BigInteger;

/** The edges of the calls themselves: refused calls, what stays, what is cut off, the last call. */
public final class CallEdgeTest {
    private static final int[] NO_KINDS = {-1, 4, Integer.MIN_VALUE, Integer.MAX_VALUE};
    private static final int[] NO_WHATS = {-1, 3, Integer.MIN_VALUE, Integer.MAX_VALUE};
    private static final long[] NEW = {0, 0, 0, 0, 0};

    public static void main(String[] args) {
        Cases.run(CallEdgeTest.class);
    }

    /** A negative NUMBER at hand, and its pattern in format 6, which is not 0 in either half. */
    private static PatternBook used() {
        PatternBook book = new PatternBook();
        Due.is("put", book.put(0, true, -3, 5, 6), true);
        Due.is("pack(6)", Due.pack(book, 6), 1);
        stays("used", book);
        return book;
    }

    private static void stays(String after, PatternBook book) {
        Due.datum(after, book, new long[] {0, 1, -3, 5, 6});
        Due.pattern(after, book, 0xB03A000000000005L, 6);
    }

    // Promise 1

    static void newObjectHasTheNumber0() {
        Due.datum("new", new PatternBook(), NEW);
    }

    static void newObjectHasThePattern0() {
        Due.pattern("new", new PatternBook(), 0, 0);
    }

    static void newObjectsDatumIsOutOfRangeOfTheBinaryFormats() {
        // Its exponent is 0, and a coefficient 0 has QMIN there.
        for (int format = 0; format < 4; format++) {
            PatternBook book = new PatternBook();
            Due.is("pack(" + format + ")", Due.pack(book, format), 0);
            Due.pattern("pack(" + format + ")", book, 0, 0);
        }
    }

    static void newObjectsDatumHasAPatternInTheDecimalFormats() {
        long[] high = {0, 0, 0x3040000000000000L, 0, 0, 0x2208000000000000L};
        long[] low = {0x32800000L, 0x31C0000000000000L, 0, 0x22500000L, 0x2238000000000000L, 0};
        for (int format = 4; format < 10; format++) {
            PatternBook book = new PatternBook();
            Due.is("pack(" + format + ")", Due.pack(book, format), 1);
            Due.pattern("pack(" + format + ")", book, high[format - 4], low[format - 4]);
        }
    }

    static void newObjectIsNewAfterAnotherWasUsed() {
        used();
        PatternBook book = new PatternBook();
        Due.datum("new", book, NEW);
        Due.pattern("new", book, 0, 0);
    }

    static void objectsShareNothing() {
        PatternBook book = used();
        PatternBook other = new PatternBook();
        other.put(3, false, 0, 0, 9);
        Due.pack(other, 9);
        Due.unpack(other, 9, -1L, -1L);
        stays("another object's calls", book);
    }

    // Promise 2

    static void unpackOfNoFormatThrows() {
        for (int format : Edge.NO_FORMATS) {
            Due.is("unpack(" + format + ")", Due.unpack(new PatternBook(), format, 0, 0), Due.THROWS);
        }
    }

    static void unpackThatThrowsChangesNothing() {
        PatternBook book = used();
        for (int format : Edge.NO_FORMATS) {
            Due.unpack(book, format, -1L, -1L);
            stays("unpack(" + format + ")", book);
        }
    }

    static void unpackTakesTheFirstAndTheLastFormat() {
        Due.is("unpack(0)", Due.unpack(new PatternBook(), 0, 0, 0), 0);
        Due.is("unpack(9)", Due.unpack(new PatternBook(), 9, 0, 0), 0);
    }

    static void unpackLeavesThePatternAtHand() {
        for (int format = 0; format < 10; format++) {
            PatternBook book = used();
            Due.unpack(book, format, -1L, -1L);
            Due.pattern("unpack(" + format + ")", book, 0xB03A000000000005L, 6);
        }
    }

    static void unpackOfAnInfinityLeavesNoExponentAndNoBody() {
        long[] high = {0, 0, 0, 0x7FFF000000000000L, 0, 0, 0x7800000000000000L, 0, 0, 0x7800000000000000L};
        long[] low = {0x7C00, 0x7F800000L, 0x7FF0000000000000L, 0, 0x78000000L, 0x7800000000000000L, 0,
            0x78000000L, 0x7800000000000000L, 0};
        for (int format = 0; format < 10; format++) {
            PatternBook book = used();
            Due.is("unpack(" + format + ")", Due.unpack(book, format, high[format], low[format]), 1);
            Due.datum("unpack(" + format + ")", book, new long[] {1, 0, 0, 0, 0});
        }
    }

    static void unpackOfANanLeavesNoExponent() {
        for (int format = 0; format < 10; format++) {
            PatternBook book = used();
            int kind = format < 4 ? 2 : 3;
            Due.is("unpack(" + format + ")", Due.unpack(book, format, -1L, -1L), kind);
            Due.is("look(2) in " + format, book.look(2), 0);
        }
    }

    /** All bits above the lowest K are 1 in one call and 0 in the other. */
    static void unpackLooksAtTheLowestBitsAlone() {
        for (int format : new int[] {0, 1, 2, 4, 5, 7, 8}) {
            int bits = Due.FORMATS[format][0];
            BigInteger above = Edge.FULL.shiftRight(bits).shiftLeft(bits);
            PatternBook book = used();
            Due.is("unpack(" + format + ")",
                    Due.unpack(book, format, Edge.high(above), above.longValue()), 0);
            Due.datum("unpack(" + format + ")", book, new long[] {0, 0, Edge.QMIN[format], 0, 0});
        }
    }

    static void unpackLooksAtEachOfTheLowestBits() {
        for (int format = 0; format < 10; format++) {
            for (int place = 0; place < Due.FORMATS[format][0]; place++) {
                BigInteger one = Edge.ONE.shiftLeft(place);
                PatternBook book = new PatternBook();
                Due.unpack(book, format, Edge.high(one), one.longValue());
                boolean asZero = book.look(0) == 0 && book.look(1) == 0 && book.part(true) == 0
                        && book.part(false) == 0 && book.look(2) == Edge.QMIN[format];
                Due.is("unpack(" + format + ", 2^" + place + ") is as unpack of 0", asZero, false);
            }
        }
    }

    static void theHighestBitIsTheSign() {
        for (int format = 0; format < 10; format++) {
            BigInteger sign = Edge.ONE.shiftLeft(Due.FORMATS[format][0] - 1);
            PatternBook book = new PatternBook();
            Due.unpack(book, format, Edge.high(sign), sign.longValue());
            Due.datum("unpack(" + format + ")", book, new long[] {0, 1, Edge.QMIN[format], 0, 0});
        }
    }

    // Promise 3

    static void canonicalOfNoFormatThrows() {
        for (int format : Edge.NO_FORMATS) {
            Due.is("canonical(" + format + ")", Due.canonical(new PatternBook(), format, 0, 0), Due.THROWS);
        }
    }

    static void canonicalThatThrowsChangesNothing() {
        PatternBook book = used();
        for (int format : Edge.NO_FORMATS) {
            Due.canonical(book, format, -1L, -1L);
            stays("canonical(" + format + ")", book);
        }
    }

    static void canonicalThatIsTrueChangesNothing() {
        PatternBook book = used();
        for (int format = 0; format < 10; format++) {
            Due.is("canonical(" + format + ")", Due.canonical(book, format, 0, 1), 1);
            stays("canonical(" + format + ")", book);
        }
    }

    static void canonicalThatIsFalseChangesNothing() {
        PatternBook book = used();
        for (int format = 4; format < 10; format++) {
            Due.is("canonical(" + format + ")", Due.canonical(book, format, -1L, -1L), 0);
            stays("canonical(" + format + ")", book);
        }
    }

    static void canonicalOfANewObjectLeavesItNew() {
        PatternBook book = new PatternBook();
        for (int format = 0; format < 10; format++) {
            Due.canonical(book, format, -1L, -1L);
            Due.datum("canonical(" + format + ")", book, NEW);
            Due.pattern("canonical(" + format + ")", book, 0, 0);
        }
    }

    static void canonicalLooksAtTheLowestBitsAlone() {
        for (int format : new int[] {0, 1, 2, 4, 5, 7, 8}) {
            int bits = Due.FORMATS[format][0];
            BigInteger above = Edge.FULL.shiftRight(bits).shiftLeft(bits);
            Due.is("canonical(" + format + ")",
                    Due.canonical(new PatternBook(), format, Edge.high(above), above.longValue()), 1);
        }
    }

    static void allBinaryPatternsOfAllOnesAreCanonical() {
        for (int format = 0; format < 4; format++) {
            Due.is("canonical(" + format + ")", Due.canonical(new PatternBook(), format, -1L, -1L), 1);
        }
    }

    // Promise 4

    static void putOfAnotherKindIsRefused() {
        for (int kind : NO_KINDS) {
            Due.is("put(" + kind + ")", new PatternBook().put(kind, true, 1, 1, 1), false);
        }
    }

    static void putThatIsRefusedChangesNothing() {
        PatternBook book = used();
        for (int kind : NO_KINDS) {
            book.put(kind, false, 9, 9, 9);
            stays("put(" + kind + ")", book);
        }
    }

    static void putTakesTheFirstAndTheLastKind() {
        Due.is("put(0)", new PatternBook().put(0, false, 0, 0, 0), true);
        Due.is("put(3)", new PatternBook().put(3, false, 0, 0, 0), true);
    }

    static void putOfANumberTakesAllExponents() {
        for (int exponent : new int[] {Integer.MIN_VALUE, -1, 0, 1, Integer.MAX_VALUE}) {
            PatternBook book = new PatternBook();
            Due.is("put", book.put(0, false, exponent, 0, 1), true);
            Due.datum("put", book, new long[] {0, 0, exponent, 0, 1});
        }
    }

    static void putOfANumberTakesAllCoefficients() {
        long[] halves = {0, 1, -1L, Long.MIN_VALUE, Long.MAX_VALUE};
        for (long high : halves) {
            for (long low : halves) {
                PatternBook book = new PatternBook();
                Due.is("put", book.put(0, true, 2, high, low), true);
                Due.datum("put", book, new long[] {0, 1, 2, high, low});
            }
        }
    }

    static void putOfANanTakesAllPayloads() {
        long[] halves = {0, 1, -1L, Long.MIN_VALUE, Long.MAX_VALUE};
        for (int kind = 2; kind < 4; kind++) {
            for (long high : halves) {
                for (long low : halves) {
                    PatternBook book = new PatternBook();
                    Due.is("put", book.put(kind, true, 0, high, low), true);
                    Due.datum("put", book, new long[] {kind, 1, 0, high, low});
                }
            }
        }
    }

    static void putOfAnInfinityHasExponent0AndBody0() {
        for (int sign = 0; sign < 2; sign++) {
            PatternBook book = used();
            Due.is("put", book.put(1, sign == 1, 7, -1L, -1L), true);
            Due.datum("put", book, new long[] {1, sign, 0, 0, 0});
        }
    }

    static void putOfANanHasExponent0() {
        for (int kind = 2; kind < 4; kind++) {
            for (int exponent : new int[] {Integer.MIN_VALUE, -3, 7, Integer.MAX_VALUE}) {
                PatternBook book = used();
                Due.is("put", book.put(kind, false, exponent, 8, 9), true);
                Due.datum("put", book, new long[] {kind, 0, 0, 8, 9});
            }
        }
    }

    static void putLeavesThePatternAtHand() {
        for (int kind = 0; kind < 4; kind++) {
            PatternBook book = used();
            book.put(kind, false, 0, 1, 1);
            Due.pattern("put(" + kind + ")", book, 0xB03A000000000005L, 6);
        }
    }

    // Promise 5

    static void packOfNoFormatThrows() {
        for (int format : Edge.NO_FORMATS) {
            Due.is("pack(" + format + ")", Due.pack(new PatternBook(), format), Due.THROWS);
        }
    }

    static void packThatThrowsChangesNothing() {
        PatternBook book = used();
        for (int format : Edge.NO_FORMATS) {
            Due.pack(book, format);
            stays("pack(" + format + ")", book);
        }
    }

    static void packOfNoFormatThrowsAlsoForWhatNoFormatHas() {
        PatternBook book = new PatternBook();
        book.put(0, false, Integer.MAX_VALUE, -1L, -1L);
        for (int format : Edge.NO_FORMATS) {
            Due.is("pack(" + format + ")", Due.pack(book, format), Due.THROWS);
        }
    }

    static void packThatIsRefusedChangesNothing() {
        PatternBook book = used();
        for (int format : new int[] {0, 1, 2, 3, 4, 5, 7, 8}) {
            Due.is("pack(" + format + ")", Due.pack(book, format), 0);
            stays("pack(" + format + ")", book);
        }
    }

    static void packOfAnInfinityIsNeverRefused() {
        for (int format = 0; format < 10; format++) {
            PatternBook book = new PatternBook();
            book.put(1, true, Integer.MAX_VALUE, -1L, -1L);
            Due.is("pack(" + format + ")", Due.pack(book, format), 1);
        }
    }

    static void packMakesTheBitsAboveTheLowest0() {
        for (int format : new int[] {0, 1, 2, 4, 5, 7, 8}) {
            PatternBook book = new PatternBook();
            book.put(2, true, 0, (1L << 47) - 1, -1L);
            Due.is("pack(3)", Due.pack(book, 3), 1);
            Due.pattern("pack(3)", book, -1L, -1L);
            book.put(2, true, 0, 0, 1);
            Due.is("pack(" + format + ")", Due.pack(book, format), 1);
            int bits = Due.FORMATS[format][0];
            Due.is("above in the high half", book.pattern(true), 0);
            Due.is("above in the low half", bits < 64 ? book.pattern(false) >>> bits : 0, 0);
        }
    }

    static void packAfterUnpackTakesThatDatum() {
        PatternBook book = used();
        Due.unpack(book, 4, 0, 0xFE000007L);
        Due.is("pack(1)", Due.pack(book, 1), 1);
        Due.pattern("pack(1)", book, 0, 0xFF800007L);
    }

    static void packAfterARefusedPutTakesTheDatumBefore() {
        PatternBook book = new PatternBook();
        book.put(2, false, 0, 0, 3);
        book.put(4, true, 0, 0, 9);
        Due.is("pack(0)", Due.pack(book, 0), 1);
        Due.pattern("pack(0)", book, 0, 0x7E03);
    }

    static void packTwiceMakesTheSame() {
        for (int format = 4; format < 10; format++) {
            PatternBook book = new PatternBook();
            book.put(0, true, 1, 0, 9999999);
            Due.is("pack(" + format + ")", Due.pack(book, format), 1);
            long high = book.pattern(true);
            long low = book.pattern(false);
            Due.is("pack(" + format + ")", Due.pack(book, format), 1);
            Due.pattern("the second pack(" + format + ")", book, high, low);
        }
    }

    // Promise 6

    static void patternOfTheHighHalf() {
        Due.is("pattern(true)", used().pattern(true), 0xB03A000000000005L);
    }

    static void patternOfTheLowHalf() {
        Due.is("pattern(false)", used().pattern(false), 6);
    }

    static void patternChangesNothing() {
        PatternBook book = used();
        book.pattern(true);
        book.pattern(false);
        stays("pattern", book);
    }

    // Promise 7

    static void lookAtAnotherWhatIsNone() {
        for (int what : NO_WHATS) {
            Due.is("look(" + what + ")", used().look(what), PatternBook.NONE);
        }
    }

    static void lookChangesNothing() {
        PatternBook book = used();
        for (int what : NO_WHATS) {
            book.look(what);
        }
        stays("look", book);
    }

    static void lookAtAnExponentThatIsAsNone() {
        PatternBook book = new PatternBook();
        book.put(0, true, PatternBook.NONE, 0, 0);
        Due.is("look(2)", book.look(2), -1);
        Due.is("look(0)", book.look(0), 0);
    }

    static void lookAtTheSignOfEachKind() {
        for (int kind = 0; kind < 4; kind++) {
            PatternBook book = new PatternBook();
            book.put(kind, true, 0, 0, 1);
            Due.is("look(0)", book.look(0), kind);
            Due.is("look(1)", book.look(1), 1);
            book.put(kind, false, 0, 0, 1);
            Due.is("look(0)", book.look(0), kind);
            Due.is("look(1)", book.look(1), 0);
        }
    }

    // Promise 8

    static void partOfTheHighHalf() {
        Due.is("part(true)", used().part(true), 5);
    }

    static void partOfTheLowHalf() {
        Due.is("part(false)", used().part(false), 6);
    }

    static void partOfTheFullBody() {
        PatternBook book = new PatternBook();
        book.put(0, false, 0, -1L, -1L);
        Due.is("part(true)", book.part(true), -1L);
        Due.is("part(false)", book.part(false), -1L);
    }

    static void partChangesNothing() {
        PatternBook book = used();
        book.part(true);
        book.part(false);
        stays("part", book);
    }

    // Promises 9 and 10

    static void digitsChangesNothing() {
        PatternBook book = used();
        for (int declet : new int[] {-1, 0, 1023, 1024}) {
            book.digits(declet);
            stays("digits(" + declet + ")", book);
        }
    }

    static void decletChangesNothing() {
        PatternBook book = used();
        for (int digits : new int[] {-1, 0, 999, 1000}) {
            book.declet(digits);
            stays("declet(" + digits + ")", book);
        }
    }

    // All promises

    static void the512thCallAnswersAsTheFirst() {
        PatternBook book = new PatternBook();
        for (int call = 1; call <= 510; call++) {
            int format = call % 10;
            Due.is("call " + call, Due.canonical(book, format, 0, 1), 1);
        }
        Due.is("call 511", book.put(0, false, -2, 0, 125), true);
        Due.is("call 512", Due.pack(book, 7), 1);
    }
}
