import java.math.BigInteger;

/** The edges that the document names for all decimal formats, those with declets among them. */
public final class DecimalEdgeTest {
    private static final int FIRST = 4;
    private static final int END = 10;

    public static void main(String[] args) {
        Cases.run(DecimalEdgeTest.class);
    }

    private static int places(int format) {
        return Due.FORMATS[format][1];
    }

    /** The bits of G behind the first five. */
    private static int restBits(int format) {
        return Due.FORMATS[format][0] / 16 + 4;
    }

    private static int tailBits(int format) {
        return 10 * ((places(format) - 1) / 3);
    }

    private static String zeroTail(int format) {
        return Edge.zeros(tailBits(format));
    }

    /** T of the PAYLOAD 10^(P - 1) - 1. */
    private static String nines(int format) {
        if (format >= 7) {
            return "0011111111".repeat((places(format) - 1) / 3);
        }
        return Edge.bits(Edge.below(Edge.power(10, places(format) - 1)), tailBits(format));
    }

    /** Each text of zeros with a single 1. */
    private static String[] singles(int count) {
        String[] all = new String[count];
        for (int i = 0; i < count; i++) {
            all[i] = Edge.zeros(i) + "1" + Edge.zeros(count - 1 - i);
        }
        return all;
    }

    static void allZerosIsCoefficient0AtQmin() {
        for (int f = FIRST; f < END; f++) {
            String rest = "00000" + Edge.zeros(restBits(f)) + zeroTail(f);
            Edge.isSigned(f, rest, Edge.NUMBER, Edge.QMIN[f], Edge.ZERO);
        }
    }

    static void lowestBitIsCoefficient1AtQmin() {
        for (int f = FIRST; f < END; f++) {
            String rest = "00000" + Edge.zeros(restBits(f)) + Edge.zeros(tailBits(f) - 1) + "1";
            Edge.isSigned(f, rest, Edge.NUMBER, Edge.QMIN[f], Edge.ONE);
        }
    }

    static void coefficient0AtQmaxKeepsItsExponent() {
        for (int f = FIRST; f < END; f++) {
            // G is e and 000 in 4, 5, 6; in 7, 8, 9 the digit stands behind the first two bits.
            String head = f < 7 ? "10" + Edge.ones(restBits(f)) + "000" : "10 000" + Edge.ones(restBits(f));
            Edge.isSigned(f, head + zeroTail(f), Edge.NUMBER, Edge.QMAX[f], Edge.ZERO);
        }
    }

    static void smallCoefficientIsMadeAtEachEndOfTheExponents() {
        for (int f = FIRST; f < END; f++) {
            for (int q : new int[] {Edge.QMIN[f], Edge.QMIN[f] + 1, 0, Edge.QMAX[f] - 1, Edge.QMAX[f]}) {
                PatternBook book = Edge.with(Edge.NUMBER, 0, q, Edge.ONE);
                Due.is("pack(" + f + ") at " + q, Due.pack(book, f), 1);
                Due.unpack(book, f, book.pattern(true), book.pattern(false));
                Due.datum("back in " + f, book, new long[] {0, 0, q, 0, 1});
            }
        }
    }

    static void greatestCoefficientIsMadeAtEachEndOfTheExponents() {
        for (int f = FIRST; f < END; f++) {
            BigInteger most = Edge.below(Edge.power(10, places(f)));
            for (int q : new int[] {Edge.QMIN[f], 0, Edge.QMAX[f]}) {
                PatternBook book = Edge.with(Edge.NUMBER, 1, q, most);
                Due.is("pack(" + f + ") at " + q, Due.pack(book, f), 1);
                Due.unpack(book, f, book.pattern(true), book.pattern(false));
                Due.datum("back in " + f, book,
                        new long[] {0, 1, q, Edge.high(most), most.longValue()});
            }
        }
    }

    static void coefficientOneAboveTheGreatestIsRefused() {
        for (int f = FIRST; f < END; f++) {
            Edge.refuses(f, Edge.NUMBER, Edge.QMIN[f], Edge.power(10, places(f)));
            Edge.refuses(f, Edge.NUMBER, 0, Edge.power(10, places(f)));
            Edge.refuses(f, Edge.NUMBER, Edge.QMAX[f], Edge.power(10, places(f)));
        }
    }

    static void coefficientOfTheHighHalfAloneIsRefused() {
        for (int f : new int[] {4, 5, 7, 8}) {
            Edge.refuses(f, Edge.NUMBER, 0, Edge.power(2, 64));
        }
    }

    static void coefficientIsWithoutASign() {
        for (int f = FIRST; f < END; f++) {
            Edge.refuses(f, Edge.NUMBER, 0, Edge.power(2, 127));
            Edge.refuses(f, Edge.NUMBER, 0, Edge.FULL);
            Edge.refuses(f, Edge.NUMBER, 0, Edge.power(2, 127).add(Edge.ONE));
        }
        for (int f : new int[] {4, 5, 7, 8}) {
            Edge.refuses(f, Edge.NUMBER, 0, Edge.power(2, 63));
        }
    }

    static void coefficientWithEqualHighHalfIsTakenByItsLowHalfWithoutASign() {
        // The low half of 10^34 - 1 begins with 0, so a low half from 2^63 on is above it.
        BigInteger most = Edge.below(Edge.power(10, 34));
        BigInteger highHalf = most.shiftRight(64).shiftLeft(64);
        for (int f : new int[] {6, 9}) {
            Edge.refuses(f, Edge.NUMBER, 0, highHalf.add(Edge.power(2, 63)));
            Edge.refuses(f, Edge.NUMBER, 0, highHalf.add(Edge.below(Edge.power(2, 64))));
        }
    }

    static void coefficientWithLowerHighHalfAndFullLowHalfIsMade() {
        BigInteger most = Edge.below(Edge.power(10, 34));
        BigInteger one = Edge.below(most.shiftRight(64).shiftLeft(64));
        for (int f : new int[] {6, 9}) {
            PatternBook book = Edge.with(Edge.NUMBER, 0, 0, one);
            Due.is("pack(" + f + ")", Due.pack(book, f), 1);
            Due.unpack(book, f, book.pattern(true), book.pattern(false));
            Due.datum("back in " + f, book, new long[] {0, 0, 0, Edge.high(one), -1L});
        }
    }

    static void exponentOneBelowQminIsRefused() {
        for (int f = FIRST; f < END; f++) {
            Edge.refuses(f, Edge.NUMBER, Edge.QMIN[f] - 1, Edge.ZERO);
            Edge.refuses(f, Edge.NUMBER, Edge.QMIN[f] - 1, Edge.power(10, places(f) - 1));
        }
    }

    static void exponentOneAboveQmaxIsRefused() {
        for (int f = FIRST; f < END; f++) {
            Edge.refuses(f, Edge.NUMBER, Edge.QMAX[f] + 1, Edge.ZERO);
            Edge.refuses(f, Edge.NUMBER, Edge.QMAX[f] + 1, Edge.ONE);
        }
    }

    static void exponentAtTheEndsOfIntIsRefused() {
        for (int f = FIRST; f < END; f++) {
            Edge.refuses(f, Edge.NUMBER, Integer.MIN_VALUE, Edge.ZERO);
            Edge.refuses(f, Edge.NUMBER, Integer.MAX_VALUE, Edge.ZERO);
            Edge.refuses(f, Edge.NUMBER, Edge.QMIN[f] + Integer.MIN_VALUE, Edge.ZERO);
        }
    }

    static void infinityIs11110AndZeros() {
        for (int f = FIRST; f < END; f++) {
            String rest = "11110" + Edge.zeros(restBits(f)) + zeroTail(f);
            Edge.isSigned(f, rest, Edge.INFINITY, 0, Edge.ZERO);
        }
    }

    static void infinityWithAnyBitBehind11110IsNotCanonical() {
        for (int f = FIRST; f < END; f++) {
            for (String behind : singles(restBits(f) + tailBits(f))) {
                Edge.isOnlyRead(f, "11110" + behind, Edge.INFINITY, 0, Edge.ZERO);
            }
        }
    }

    static void infinityWithAllBitsBehind11110IsNotCanonical() {
        for (int f = FIRST; f < END; f++) {
            String rest = "11110" + Edge.ones(restBits(f) + tailBits(f));
            Edge.isOnlyRead(f, rest, Edge.INFINITY, 0, Edge.ZERO);
        }
    }

    static void quietNanWithPayload0() {
        for (int f = FIRST; f < END; f++) {
            String rest = "11111 0" + Edge.zeros(restBits(f) - 1) + zeroTail(f);
            Edge.isSigned(f, rest, Edge.QUIET, 0, Edge.ZERO);
        }
    }

    static void signallingNanWithPayload0IsMade() {
        for (int f = FIRST; f < END; f++) {
            String rest = "11111 1" + Edge.zeros(restBits(f) - 1) + zeroTail(f);
            Edge.isSigned(f, rest, Edge.SIGNALLING, 0, Edge.ZERO);
        }
    }

    static void nanWithPayload1() {
        for (int f = FIRST; f < END; f++) {
            String behind = Edge.zeros(restBits(f) - 1) + Edge.zeros(tailBits(f) - 1) + "1";
            Edge.isSigned(f, "11111 0" + behind, Edge.QUIET, 0, Edge.ONE);
            Edge.isSigned(f, "11111 1" + behind, Edge.SIGNALLING, 0, Edge.ONE);
        }
    }

    static void nanWithTheGreatestPayload() {
        for (int f = FIRST; f < END; f++) {
            BigInteger most = Edge.below(Edge.power(10, places(f) - 1));
            String behind = Edge.zeros(restBits(f) - 1) + nines(f);
            Edge.isSigned(f, "11111 0" + behind, Edge.QUIET, 0, most);
            Edge.isSigned(f, "11111 1" + behind, Edge.SIGNALLING, 0, most);
        }
    }

    static void nanWithAnyBitOfGBehindTheSixthIsNotCanonical() {
        for (int f = FIRST; f < END; f++) {
            for (String behind : singles(restBits(f) - 1)) {
                Edge.isOnlyRead(f, "11111 0" + behind + zeroTail(f), Edge.QUIET, 0, Edge.ZERO);
                Edge.isOnlyRead(f, "11111 1" + behind + zeroTail(f), Edge.SIGNALLING, 0, Edge.ZERO);
            }
        }
    }

    static void payloadOneTooMuchIsRefused() {
        for (int f = FIRST; f < END; f++) {
            Edge.refuses(f, Edge.QUIET, 0, Edge.power(10, places(f) - 1));
            Edge.refuses(f, Edge.SIGNALLING, 0, Edge.power(10, places(f) - 1));
        }
    }

    static void payloadThatWouldBeACoefficientIsRefused() {
        for (int f = FIRST; f < END; f++) {
            Edge.refuses(f, Edge.QUIET, 0, Edge.below(Edge.power(10, places(f))));
            Edge.refuses(f, Edge.SIGNALLING, 0, Edge.below(Edge.power(10, places(f))));
        }
    }

    static void payloadIsWithoutASign() {
        for (int f = FIRST; f < END; f++) {
            for (int kind = Edge.QUIET; kind <= Edge.SIGNALLING; kind++) {
                Edge.refuses(f, kind, 0, Edge.power(2, 127));
                Edge.refuses(f, kind, 0, Edge.FULL);
                Edge.refuses(f, kind, 0, Edge.power(2, 127).add(Edge.ONE));
            }
        }
    }
}
