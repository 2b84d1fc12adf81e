import java.math.BigInteger;

/** The edges of formats 7, 8, 9: where the first digit stands, and which declets are made. */
public final class DecletDecimalEdgeTest {
    private static final int FIRST = 7;
    private static final int END = 10;
    private static final String NINES = "0011111111";

    public static void main(String[] args) {
        Cases.run(DecletDecimalEdgeTest.class);
    }

    private static int declets(int format) {
        return (Due.FORMATS[format][1] - 1) / 3;
    }

    /** The bits of G behind the fifth. */
    private static int restBits(int format) {
        return Due.FORMATS[format][0] / 16 + 4;
    }

    private static String zeroTail(int format) {
        return Edge.zeros(10 * declets(format));
    }

    /** T of which all declets are 0 but the one at a place, 0 being the last. */
    private static String tail(int format, int place, String declet) {
        return Edge.zeros(10 * (declets(format) - 1 - place)) + declet + Edge.zeros(10 * place);
    }

    private static BigInteger withDigits(int format, int first) {
        return BigInteger.valueOf(first).multiply(Edge.power(1000, declets(format)));
    }

    /** The first five bits of G with the first two bits of e and the first digit. */
    private static String mark(int top, int digit) {
        String two = Edge.bits(BigInteger.valueOf(top), 2);
        return digit < 8 ? two + Edge.bits(BigInteger.valueOf(digit), 3) : "11" + two + (digit - 8);
    }

    private static int exponent(int format, int top) {
        return Edge.QMIN[format] + (top << restBits(format));
    }

    static void eachFirstDigitWithEachBeginningOfTheField() {
        for (int f = FIRST; f < END; f++) {
            for (int top = 0; top < 3; top++) {
                for (int digit = 0; digit < 10; digit++) {
                    String rest = mark(top, digit) + Edge.zeros(restBits(f)) + zeroTail(f);
                    Edge.isSigned(f, rest, Edge.NUMBER, exponent(f, top), withDigits(f, digit));
                }
            }
        }
    }

    static void digit7IsTheLastNotBehind11() {
        for (int f = FIRST; f < END; f++) {
            String tail = NINES.repeat(declets(f));
            BigInteger last = Edge.below(withDigits(f, 8));
            Edge.isSigned(f, "00111" + Edge.zeros(restBits(f)) + tail, Edge.NUMBER, Edge.QMIN[f], last);
            Edge.isSigned(f, "10111" + Edge.ones(restBits(f)) + tail, Edge.NUMBER, Edge.QMAX[f], last);
        }
    }

    static void digit8IsTheFirstBehind11() {
        for (int f = FIRST; f < END; f++) {
            BigInteger first = withDigits(f, 8);
            String zeros = zeroTail(f);
            Edge.isSigned(f, "11000" + Edge.zeros(restBits(f)) + zeros, Edge.NUMBER, Edge.QMIN[f], first);
            Edge.isSigned(f, "11100" + Edge.ones(restBits(f)) + zeros, Edge.NUMBER, Edge.QMAX[f], first);
        }
    }

    static void greatestCoefficient() {
        for (int f = FIRST; f < END; f++) {
            String tail = NINES.repeat(declets(f));
            BigInteger most = Edge.below(withDigits(f, 10));
            Edge.isSigned(f, "11001" + Edge.zeros(restBits(f)) + tail, Edge.NUMBER, Edge.QMIN[f], most);
            Edge.isSigned(f, "11101" + Edge.ones(restBits(f)) + tail, Edge.NUMBER, Edge.QMAX[f], most);
        }
    }

    static void allOnesBehind11101IsTheGreatestToo() {
        for (int f = FIRST; f < END; f++) {
            String rest = "11101" + Edge.ones(restBits(f) + 10 * declets(f));
            Edge.isOnlyRead(f, rest, Edge.NUMBER, Edge.QMAX[f], Edge.below(withDigits(f, 10)));
        }
    }

    static void declet999InEachPlaceIsMadeWith00() {
        for (int f = FIRST; f < END; f++) {
            for (int place = 0; place < declets(f); place++) {
                BigInteger body = BigInteger.valueOf(999).multiply(Edge.power(1000, place));
                String rest = "00000" + Edge.zeros(restBits(f)) + tail(f, place, NINES);
                Edge.isSigned(f, rest, Edge.NUMBER, Edge.QMIN[f], body);
            }
        }
    }

    static void numberWithOneDecletNotMadeIsNotCanonical() {
        for (int f = FIRST; f < END; f++) {
            for (int place = 0; place < declets(f); place++) {
                for (String pq : new String[] {"01", "10", "11"}) {
                    BigInteger body = BigInteger.valueOf(999).multiply(Edge.power(1000, place));
                    String tail = tail(f, place, pq + "11111111");
                    Edge.isOnlyRead(f, "00000" + Edge.zeros(restBits(f)) + tail,
                            Edge.NUMBER, Edge.QMIN[f], body);
                }
            }
        }
    }

    static void eachDecletOfThreeLargeDigitsIsMadeWith00Alone() {
        for (int last = 0; last < 8; last++) {
            int r = last >> 2;
            int u = last >> 1 & 1;
            int y = last & 1;
            BigInteger body = BigInteger.valueOf(100 * (8 + r) + 10 * (8 + u) + 8 + y);
            String behind = r + "11" + u + "111" + y;
            String head = "00000" + Edge.zeros(restBits(7));
            Edge.isSigned(7, head + tail(7, 0, "00" + behind), Edge.NUMBER, Edge.QMIN[7], body);
            for (String pq : new String[] {"01", "10", "11"}) {
                Edge.isOnlyRead(7, head + tail(7, 0, pq + behind), Edge.NUMBER, Edge.QMIN[7], body);
            }
        }
    }

    static void pAndQ1AreMadeInTheOtherRows() {
        // wx 11 with st 00, 01, 10; st 11 with wx 10, 01, 00; wx and st 11 with v 0.
        String[] made = {"1100001110", "1100101110", "1101001110", "1101101100", "1101101010",
            "1101101000", "1101100110"};
        int[] digits = {886, 868, 688, 866, 686, 668, 666};
        for (int i = 0; i < made.length; i++) {
            String rest = "00000" + Edge.zeros(restBits(7)) + tail(7, 0, made[i]);
            Edge.isSigned(7, rest, Edge.NUMBER, Edge.QMIN[7], BigInteger.valueOf(digits[i]));
        }
    }

    static void payloadWithOneDecletNotMadeIsNotCanonical() {
        for (int f = FIRST; f < END; f++) {
            for (int place = 0; place < declets(f); place++) {
                BigInteger body = BigInteger.valueOf(999).multiply(Edge.power(1000, place));
                String behind = Edge.zeros(restBits(f) - 1) + tail(f, place, "1111111111");
                Edge.isOnlyRead(f, "11111 0" + behind, Edge.QUIET, 0, body);
                Edge.isOnlyRead(f, "11111 1" + behind, Edge.SIGNALLING, 0, body);
            }
        }
    }

    static void fullPayloadIsTheGreatestAndNotCanonical() {
        for (int f = FIRST; f < END; f++) {
            String behind = Edge.zeros(restBits(f) - 1) + Edge.ones(10 * declets(f));
            BigInteger most = Edge.below(Edge.power(1000, declets(f)));
            Edge.isOnlyRead(f, "11111 0" + behind, Edge.QUIET, 0, most);
            Edge.isOnlyRead(f, "11111 1" + behind, Edge.SIGNALLING, 0, most);
        }
    }

    static void coefficientOfOneDeclet() {
        for (int f = FIRST; f < END; f++) {
            // 1000 is the first coefficient that needs the declet before the last.
            String head = "00000" + Edge.zeros(restBits(f));
            Edge.isSigned(f, head + tail(f, 0, NINES), Edge.NUMBER, Edge.QMIN[f], BigInteger.valueOf(999));
            Edge.isSigned(f, head + tail(f, 1, "0000000001"), Edge.NUMBER, Edge.QMIN[f],
                    BigInteger.valueOf(1000));
        }
    }

    /** T and the digit before it, three digits at a time, from the coefficient's decimal text. */
    private static String behindField(BigInteger coefficient) {
        String digits = coefficient.toString();
        digits = Edge.zeros(34 - digits.length()) + digits;
        StringBuilder tail = new StringBuilder();
        for (int i = 1; i < 34; i += 3) {
            int declet = new PatternBook().declet(Integer.parseInt(digits.substring(i, i + 3)));
            tail.append(Edge.bits(BigInteger.valueOf(declet), 10));
        }
        return mark(0, digits.charAt(0) - '0') + Edge.zeros(restBits(9)) + tail;
    }

    static void coefficientsAboutEachPowerOf2() {
        for (int place = 1; place < 113; place++) {
            BigInteger power = Edge.power(2, place);
            Edge.isSigned(9, behindField(power), Edge.NUMBER, Edge.QMIN[9], power);
            Edge.isSigned(9, behindField(Edge.below(power)), Edge.NUMBER, Edge.QMIN[9], Edge.below(power));
        }
    }

    static void coefficientsAboutEachPowerOf10() {
        for (int place = 0; place < 34; place++) {
            BigInteger power = Edge.power(10, place);
            Edge.isSigned(9, behindField(power), Edge.NUMBER, Edge.QMIN[9], power);
            Edge.isSigned(9, behindField(Edge.below(power)), Edge.NUMBER, Edge.QMIN[9], Edge.below(power));
        }
    }

    static void coefficientsThatAreAThousandInAQuarterOfTheirBits() {
        for (int quarter = 0; quarter < 4; quarter++) {
            BigInteger one = BigInteger.valueOf(1000).shiftLeft(32 * quarter);
            Edge.isSigned(9, behindField(one), Edge.NUMBER, Edge.QMIN[9], one);
            Edge.isSigned(9, behindField(Edge.below(one)), Edge.NUMBER, Edge.QMIN[9], Edge.below(one));
        }
    }
}
