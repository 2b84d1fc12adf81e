import java.math.BigInteger;

/** The edges that the document names for the binary formats; each case is asked of all four. */
public final class BinaryEdgeTest {
    private static final int FORMATS = 4;

    public static void main(String[] args) {
        Cases.run(BinaryEdgeTest.class);
    }

    private static int places(int format) {
        return Due.FORMATS[format][1];
    }

    private static int fieldBits(int format) {
        return Due.FORMATS[format][0] - places(format);
    }

    /** A pattern without its sign, of the field e and the bits T. */
    private static String rest(int format, long field, String tail) {
        return Edge.bits(BigInteger.valueOf(field), fieldBits(format)) + " " + tail;
    }

    private static long fullField(int format) {
        return (1L << fieldBits(format)) - 1;
    }

    /** 2^(P - 1), the least coefficient of a field that is not 0. */
    private static BigInteger lead(int format) {
        return Edge.power(2, places(format) - 1);
    }

    static void coefficient0HasFieldAndTail0() {
        for (int f = 0; f < FORMATS; f++) {
            Edge.isSigned(f, rest(f, 0, Edge.zeros(places(f) - 1)), Edge.NUMBER, Edge.QMIN[f], Edge.ZERO);
        }
    }

    static void field0Tail1IsTheLeastCoefficientAboveZero() {
        for (int f = 0; f < FORMATS; f++) {
            String tail = Edge.zeros(places(f) - 2) + "1";
            Edge.isSigned(f, rest(f, 0, tail), Edge.NUMBER, Edge.QMIN[f], Edge.ONE);
        }
    }

    static void field0TailFullIsTheLastWithoutALeadingOne() {
        for (int f = 0; f < FORMATS; f++) {
            String tail = Edge.ones(places(f) - 1);
            Edge.isSigned(f, rest(f, 0, tail), Edge.NUMBER, Edge.QMIN[f], Edge.below(lead(f)));
        }
    }

    static void field1Tail0HasQminToo() {
        for (int f = 0; f < FORMATS; f++) {
            Edge.isSigned(f, rest(f, 1, Edge.zeros(places(f) - 1)), Edge.NUMBER, Edge.QMIN[f], lead(f));
        }
    }

    static void field1TailFullIsTheGreatestCoefficientAtQmin() {
        for (int f = 0; f < FORMATS; f++) {
            BigInteger most = Edge.below(Edge.power(2, places(f)));
            Edge.isSigned(f, rest(f, 1, Edge.ones(places(f) - 1)), Edge.NUMBER, Edge.QMIN[f], most);
        }
    }

    static void field2HasTheNextExponent() {
        for (int f = 0; f < FORMATS; f++) {
            String tail = Edge.zeros(places(f) - 1);
            Edge.isSigned(f, rest(f, 2, tail), Edge.NUMBER, Edge.QMIN[f] + 1, lead(f));
        }
    }

    static void fieldBelowAllOnesHasQmax() {
        for (int f = 0; f < FORMATS; f++) {
            String tail = Edge.zeros(places(f) - 1);
            Edge.isSigned(f, rest(f, fullField(f) - 1, tail), Edge.NUMBER, Edge.QMAX[f], lead(f));
        }
    }

    static void greatestNumber() {
        for (int f = 0; f < FORMATS; f++) {
            String tail = Edge.ones(places(f) - 1);
            BigInteger most = Edge.below(Edge.power(2, places(f)));
            Edge.isSigned(f, rest(f, fullField(f) - 1, tail), Edge.NUMBER, Edge.QMAX[f], most);
        }
    }

    static void fieldAllOnesTail0IsAnInfinity() {
        for (int f = 0; f < FORMATS; f++) {
            String tail = Edge.zeros(places(f) - 1);
            Edge.isSigned(f, rest(f, fullField(f), tail), Edge.INFINITY, 0, Edge.ZERO);
        }
    }

    static void fieldAllOnesTail1IsTheLeastSignallingNan() {
        for (int f = 0; f < FORMATS; f++) {
            String tail = Edge.zeros(places(f) - 2) + "1";
            Edge.isSigned(f, rest(f, fullField(f), tail), Edge.SIGNALLING, 0, Edge.ONE);
        }
    }

    static void fieldAllOnesHighestTailBit0RestFullIsTheGreatestSignallingNan() {
        for (int f = 0; f < FORMATS; f++) {
            String tail = "0" + Edge.ones(places(f) - 2);
            BigInteger most = Edge.below(Edge.power(2, places(f) - 2));
            Edge.isSigned(f, rest(f, fullField(f), tail), Edge.SIGNALLING, 0, most);
        }
    }

    static void fieldAllOnesHighestTailBitAloneIsAQuietNanWithPayload0() {
        for (int f = 0; f < FORMATS; f++) {
            String tail = "1" + Edge.zeros(places(f) - 2);
            Edge.isSigned(f, rest(f, fullField(f), tail), Edge.QUIET, 0, Edge.ZERO);
        }
    }

    static void allOnesIsTheGreatestQuietNan() {
        for (int f = 0; f < FORMATS; f++) {
            String tail = Edge.ones(places(f) - 1);
            BigInteger most = Edge.below(Edge.power(2, places(f) - 2));
            Edge.isSigned(f, rest(f, fullField(f), tail), Edge.QUIET, 0, most);
        }
    }

    static void eachSingleBitOfAPatternIsMadeOfWhatItIs() {
        for (int f = 0; f < FORMATS; f++) {
            int bits = Due.FORMATS[f][0];
            for (int place = 0; place < bits; place++) {
                String pattern = Edge.bits(Edge.ONE.shiftLeft(place), bits);
                Edge.isCanonical(f, pattern, true);
                BigInteger value = new BigInteger(pattern, 2);
                PatternBook book = new PatternBook();
                Due.unpack(book, f, Edge.high(value), value.longValue());
                Due.is("pack(" + f + ") of " + pattern, Due.pack(book, f), 1);
                Due.pattern("pack(" + f + ") of " + pattern, book, Edge.high(value), value.longValue());
            }
        }
    }

    static void coefficientOneAboveTheGreatestIsRefused() {
        for (int f = 0; f < FORMATS; f++) {
            Edge.refuses(f, Edge.NUMBER, Edge.QMIN[f], Edge.power(2, places(f)));
            Edge.refuses(f, Edge.NUMBER, Edge.QMAX[f], Edge.power(2, places(f)));
        }
    }

    static void coefficientOfTheHighHalfAloneIsRefused() {
        // 2^64 has 0 as its low half, and formats 0 to 2 are told by that half alone.
        for (int f = 0; f < 3; f++) {
            Edge.refuses(f, Edge.NUMBER, Edge.QMIN[f], Edge.power(2, 64));
        }
    }

    static void coefficientIsWithoutASign() {
        for (int f = 0; f < FORMATS; f++) {
            Edge.refuses(f, Edge.NUMBER, Edge.QMIN[f], Edge.power(2, 127));
            Edge.refuses(f, Edge.NUMBER, Edge.QMIN[f], Edge.FULL);
            Edge.refuses(f, Edge.NUMBER, Edge.QMIN[f], Edge.power(2, 63).add(Edge.power(2, 127)));
        }
    }

    static void exponentOneBelowQminIsRefused() {
        for (int f = 0; f < FORMATS; f++) {
            Edge.refuses(f, Edge.NUMBER, Edge.QMIN[f] - 1, lead(f));
            Edge.refuses(f, Edge.NUMBER, Edge.QMIN[f] - 1, Edge.ZERO);
        }
    }

    static void exponentOneAboveQmaxIsRefused() {
        for (int f = 0; f < FORMATS; f++) {
            Edge.refuses(f, Edge.NUMBER, Edge.QMAX[f] + 1, lead(f));
            Edge.refuses(f, Edge.NUMBER, Edge.QMAX[f] + 1, Edge.below(Edge.power(2, places(f))));
        }
    }

    static void exponentAtTheEndsOfIntIsRefused() {
        for (int f = 0; f < FORMATS; f++) {
            Edge.refuses(f, Edge.NUMBER, Integer.MIN_VALUE, lead(f));
            Edge.refuses(f, Edge.NUMBER, Integer.MAX_VALUE, lead(f));
        }
    }

    static void exponentThatWouldWrapAroundIntoTheFieldIsRefused() {
        for (int f = 0; f < FORMATS; f++) {
            Edge.refuses(f, Edge.NUMBER, Edge.QMIN[f] + (1 << fieldBits(f)), lead(f));
            Edge.refuses(f, Edge.NUMBER, Edge.QMIN[f] + Integer.MIN_VALUE, lead(f));
        }
    }

    static void smallCoefficientOneAboveQminIsRefused() {
        for (int f = 0; f < FORMATS; f++) {
            Edge.refuses(f, Edge.NUMBER, Edge.QMIN[f] + 1, Edge.below(lead(f)));
            Edge.refuses(f, Edge.NUMBER, Edge.QMIN[f] + 1, Edge.ONE);
        }
    }

    static void smallCoefficientAtQmaxIsRefused() {
        for (int f = 0; f < FORMATS; f++) {
            Edge.refuses(f, Edge.NUMBER, Edge.QMAX[f], Edge.below(lead(f)));
        }
    }

    static void coefficient0IsRefusedButAtQmin() {
        for (int f = 0; f < FORMATS; f++) {
            Edge.refuses(f, Edge.NUMBER, Edge.QMIN[f] + 1, Edge.ZERO);
            Edge.refuses(f, Edge.NUMBER, 0, Edge.ZERO);
            Edge.refuses(f, Edge.NUMBER, Edge.QMAX[f], Edge.ZERO);
        }
    }

    static void quietPayloadOneTooMuchIsRefused() {
        for (int f = 0; f < FORMATS; f++) {
            Edge.refuses(f, Edge.QUIET, 0, Edge.power(2, places(f) - 2));
        }
    }

    static void signallingPayloadOneTooMuchIsRefused() {
        for (int f = 0; f < FORMATS; f++) {
            Edge.refuses(f, Edge.SIGNALLING, 0, Edge.power(2, places(f) - 2));
        }
    }

    static void payloadIsWithoutASign() {
        for (int f = 0; f < FORMATS; f++) {
            for (int kind = Edge.QUIET; kind <= Edge.SIGNALLING; kind++) {
                Edge.refuses(f, kind, 0, Edge.power(2, 127));
                Edge.refuses(f, kind, 0, Edge.FULL);
            }
        }
    }

    static void payloadOfTheHighHalfAloneIsRefused() {
        for (int f = 0; f < 3; f++) {
            Edge.refuses(f, Edge.QUIET, 0, Edge.power(2, 64));
            Edge.refuses(f, Edge.SIGNALLING, 0, Edge.power(2, 64));
        }
    }

    static void signallingPayload0IsRefused() {
        for (int f = 0; f < FORMATS; f++) {
            Edge.refuses(f, Edge.SIGNALLING, 0, Edge.ZERO);
        }
    }
}
