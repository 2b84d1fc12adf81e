import java.math.BigInteger;

/** The edges of formats 4, 5, 6: where the coefficient's highest bits stand, and what counts as 0. */
public final class PlainDecimalEdgeTest {
    private static final int FIRST = 4;
    private static final int END = 7;

    public static void main(String[] args) {
        Cases.run(PlainDecimalEdgeTest.class);
    }

    private static int places(int format) {
        return Due.FORMATS[format][1];
    }

    /** The bits of e. */
    private static int fieldBits(int format) {
        return Due.FORMATS[format][0] / 16 + 6;
    }

    private static int tailBits(int format) {
        return 10 * ((places(format) - 1) / 3);
    }

    /** A coefficient behind a field, where G does not begin with 11. */
    private static String small(int format, String field, BigInteger coefficient) {
        return field + " " + Edge.bits(coefficient, 3 + tailBits(format));
    }

    /** The field and the coefficient but its first bits 100, behind 11. */
    private static String large(int format, String field, BigInteger coefficient) {
        String bits = Edge.bits(coefficient, 4 + tailBits(format));
        return "11 " + field + " " + bits.substring(3);
    }

    private static String lastField(int format) {
        return "10" + Edge.ones(fieldBits(format) - 2);
    }

    private static String zeroField(int format) {
        return Edge.zeros(fieldBits(format));
    }

    static void threeBitsFullAndTailFullIsTheLastNotBehind11() {
        for (int f : new int[] {4, 5}) {
            BigInteger last = Edge.below(Edge.power(2, 3 + tailBits(f)));
            Edge.isSigned(f, small(f, zeroField(f), last), Edge.NUMBER, Edge.QMIN[f], last);
            Edge.isSigned(f, small(f, lastField(f), last), Edge.NUMBER, Edge.QMAX[f], last);
        }
    }

    static void coefficient100AndZerosIsTheFirstBehind11() {
        for (int f : new int[] {4, 5}) {
            BigInteger first = Edge.power(2, 3 + tailBits(f));
            Edge.isSigned(f, large(f, zeroField(f), first), Edge.NUMBER, Edge.QMIN[f], first);
            Edge.isSigned(f, large(f, lastField(f), first), Edge.NUMBER, Edge.QMAX[f], first);
        }
    }

    static void lastBitOfGIsPartOfTheCoefficientBehind11() {
        // 1001 and then zeros: 9 * 2^20 is in range, 9 * 2^50 is not.
        BigInteger nine = BigInteger.valueOf(9).shiftLeft(20);
        Edge.isSigned(4, large(4, zeroField(4), nine), Edge.NUMBER, Edge.QMIN[4], nine);
        BigInteger tooMuch = BigInteger.valueOf(9).shiftLeft(50);
        Edge.isOnlyRead(5, large(5, zeroField(5), tooMuch), Edge.NUMBER, Edge.QMIN[5], Edge.ZERO);
    }

    static void greatestCoefficientOf4And5StandsBehind11() {
        for (int f : new int[] {4, 5}) {
            BigInteger most = Edge.below(Edge.power(10, places(f)));
            Edge.isSigned(f, large(f, zeroField(f), most), Edge.NUMBER, Edge.QMIN[f], most);
            Edge.isSigned(f, large(f, lastField(f), most), Edge.NUMBER, Edge.QMAX[f], most);
        }
    }

    static void greatestCoefficientOf6DoesNotStandBehind11() {
        BigInteger most = Edge.below(Edge.power(10, 34));
        Edge.isSigned(6, small(6, zeroField(6), most), Edge.NUMBER, Edge.QMIN[6], most);
        Edge.isSigned(6, small(6, lastField(6), most), Edge.NUMBER, Edge.QMAX[6], most);
    }

    static void coefficientOneAboveTheGreatestCountsAs0() {
        for (int f : new int[] {4, 5}) {
            BigInteger above = Edge.power(10, places(f));
            Edge.isOnlyRead(f, large(f, zeroField(f), above), Edge.NUMBER, Edge.QMIN[f], Edge.ZERO);
            Edge.isOnlyRead(f, large(f, lastField(f), above), Edge.NUMBER, Edge.QMAX[f], Edge.ZERO);
        }
        BigInteger above = Edge.power(10, 34);
        Edge.isOnlyRead(6, small(6, zeroField(6), above), Edge.NUMBER, Edge.QMIN[6], Edge.ZERO);
        Edge.isOnlyRead(6, small(6, lastField(6), above), Edge.NUMBER, Edge.QMAX[6], Edge.ZERO);
    }

    static void fullCoefficientOf6NotBehind11CountsAs0() {
        BigInteger full = Edge.below(Edge.power(2, 113));
        Edge.isOnlyRead(6, small(6, zeroField(6), full), Edge.NUMBER, Edge.QMIN[6], Edge.ZERO);
    }

    static void eachCoefficientOf6Behind11CountsAs0() {
        for (int place = 0; place <= 110; place++) {
            BigInteger one = Edge.power(2, 113).add(Edge.power(2, place));
            Edge.isOnlyRead(6, large(6, zeroField(6), one), Edge.NUMBER, Edge.QMIN[6], Edge.ZERO);
        }
        BigInteger first = Edge.power(2, 113);
        Edge.isOnlyRead(6, large(6, zeroField(6), first), Edge.NUMBER, Edge.QMIN[6], Edge.ZERO);
        Edge.isOnlyRead(6, large(6, lastField(6), first), Edge.NUMBER, Edge.QMAX[6], Edge.ZERO);
    }

    static void fullCoefficientBehind11CountsAs0() {
        for (int f = FIRST; f < END; f++) {
            String behind = Edge.ones(1 + tailBits(f));
            Edge.isOnlyRead(f, "11" + lastField(f) + behind, Edge.NUMBER, Edge.QMAX[f], Edge.ZERO);
        }
    }

    static void coefficient0IsNeverMadeBehind11() {
        for (int f = FIRST; f < END; f++) {
            Edge.makes(f, "0" + small(f, lastField(f), Edge.ZERO), Edge.NUMBER, 0, Edge.QMAX[f], Edge.ZERO);
        }
    }

    static void fieldsFirstBitsAre00And01And10() {
        for (int f = FIRST; f < END; f++) {
            for (int first = 0; first < 3; first++) {
                String field = Edge.bits(BigInteger.valueOf(first), 2) + Edge.zeros(fieldBits(f) - 2);
                int exponent = Edge.QMIN[f] + (first << (fieldBits(f) - 2));
                Edge.isSigned(f, small(f, field, Edge.ONE), Edge.NUMBER, exponent, Edge.ONE);
            }
        }
    }

    static void fieldsFirstBitsBehind11Are00And01And10() {
        for (int f : new int[] {4, 5}) {
            BigInteger most = Edge.below(Edge.power(10, places(f)));
            for (int first = 0; first < 3; first++) {
                String field = Edge.bits(BigInteger.valueOf(first), 2) + Edge.zeros(fieldBits(f) - 2);
                int exponent = Edge.QMIN[f] + (first << (fieldBits(f) - 2));
                Edge.isSigned(f, large(f, field, most), Edge.NUMBER, exponent, most);
            }
        }
    }

    static void payloadOneAboveTheGreatestCountsAs0() {
        for (int f = FIRST; f < END; f++) {
            String behind = Edge.zeros(fieldBits(f) - 3)
                    + Edge.bits(Edge.power(10, places(f) - 1), tailBits(f));
            Edge.isOnlyRead(f, "11111 0" + behind, Edge.QUIET, 0, Edge.ZERO);
            Edge.isOnlyRead(f, "11111 1" + behind, Edge.SIGNALLING, 0, Edge.ZERO);
        }
    }

    static void fullPayloadCountsAs0() {
        for (int f = FIRST; f < END; f++) {
            String behind = Edge.zeros(fieldBits(f) - 3) + Edge.ones(tailBits(f));
            Edge.isOnlyRead(f, "11111 0" + behind, Edge.QUIET, 0, Edge.ZERO);
            Edge.isOnlyRead(f, "11111 1" + behind, Edge.SIGNALLING, 0, Edge.ZERO);
        }
    }

    static void lastBitsOfGAreNoPartOfAPayload() {
        for (int f = FIRST; f < END; f++) {
            String head = "11111 0" + Edge.ones(fieldBits(f) - 3);
            String tail = Edge.zeros(tailBits(f) - 3) + "101";
            Edge.isOnlyRead(f, head + tail, Edge.QUIET, 0, BigInteger.valueOf(5));
        }
    }
}
