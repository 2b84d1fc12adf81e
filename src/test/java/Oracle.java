import java.math.BigInteger;

/**
 * What a pattern is, read once more from the document, on texts of bits and BigIntegers, so that
 * it shares no way of thinking with the class.
 */
final class Oracle {
    final int kind;
    final int sign;
    final int exponent;
    final BigInteger body;
    final boolean canonical;

    private Oracle(int kind, char sign, int exponent, BigInteger body, boolean canonical) {
        this.kind = kind;
        this.sign = sign - '0';
        this.exponent = exponent;
        this.body = body;
        this.canonical = canonical;
    }

    static Oracle of(int format, long high, long low) {
        String all = text(high) + text(low);
        String bits = all.substring(128 - Due.FORMATS[format][0]);
        return format < 4 ? binary(format, bits) : decimal(format, bits);
    }

    private static String text(long half) {
        String bits = Long.toBinaryString(half);
        return "0".repeat(64 - bits.length()) + bits;
    }

    static int qmin(int format) {
        return 2 - Due.FORMATS[format][2] - Due.FORMATS[format][1];
    }

    private static Oracle binary(int format, String bits) {
        int places = Due.FORMATS[format][1];
        char sign = bits.charAt(0);
        String field = bits.substring(1, bits.length() - (places - 1));
        String tail = bits.substring(bits.length() - (places - 1));
        if (!field.contains("1")) {
            return new Oracle(0, sign, qmin(format), value(tail), true);
        }
        if (field.contains("0")) {
            int exponent = value(field).intValue() - 1 + qmin(format);
            return new Oracle(0, sign, exponent, value("1" + tail), true);
        }
        if (!tail.contains("1")) {
            return new Oracle(1, sign, 0, BigInteger.ZERO, true);
        }
        return new Oracle(tail.charAt(0) == '1' ? 2 : 3, sign, 0, value(tail.substring(1)), true);
    }

    private static Oracle decimal(int format, String bits) {
        int headEnd = 1 + bits.length() / 16 + 9;
        char sign = bits.charAt(0);
        String head = bits.substring(1, headEnd);
        String tail = bits.substring(headEnd);
        int places = Due.FORMATS[format][1];
        if (head.startsWith("11111")) {
            int kind = head.charAt(5) == '1' ? 3 : 2;
            boolean clean = !head.substring(6).contains("1");
            return body(format, kind, sign, 0, "", tail, places - 1, clean);
        }
        if (head.startsWith("11110")) {
            boolean clean = !(head.substring(5) + tail).contains("1");
            return new Oracle(1, sign, 0, BigInteger.ZERO, clean);
        }
        boolean large = head.startsWith("11");
        String field;
        String lead;
        if (format < 7) {
            field = large ? head.substring(2, head.length() - 1) : head.substring(0, head.length() - 3);
            lead = large ? "100" + head.substring(head.length() - 1) : head.substring(head.length() - 3);
        } else {
            field = (large ? head.substring(2, 4) : head.substring(0, 2)) + head.substring(5);
            lead = large ? "100" + head.charAt(4) : head.substring(2, 5);
        }
        int exponent = value(field).intValue() + qmin(format);
        return body(format, 0, sign, exponent, lead, tail, places, true);
    }

    private static Oracle body(int format, int kind, char sign, int exponent, String lead,
            String tail, int places, boolean clean) {
        if (format < 7) {
            BigInteger whole = value(lead + tail);
            boolean counts = whole.toString().length() <= places;
            return new Oracle(kind, sign, exponent, counts ? whole : BigInteger.ZERO, clean && counts);
        }
        StringBuilder digits = new StringBuilder(lead.isEmpty() ? "0" : value(lead).toString());
        boolean made = clean;
        for (int i = 0; i < tail.length(); i += 10) {
            String declet = tail.substring(i, i + 10);
            digits.append(digits(declet));
            made &= isMade(declet);
        }
        return new Oracle(kind, sign, exponent, new BigInteger(digits.toString()), made);
    }

    /** Three characters for a declet of ten: the document's table, row by row. */
    static String digits(String declet) {
        String rule;
        if (declet.charAt(6) == '0') {
            rule = "0pqr 0stu 0wxy";
        } else {
            switch (declet.substring(7, 9)) {
                case "00": rule = "0pqr 0stu 100y"; break;
                case "01": rule = "0pqr 100u 0sty"; break;
                case "10": rule = "100r 0stu 0pqy"; break;
                default:
                    switch (declet.substring(3, 5)) {
                        case "00": rule = "100r 100u 0pqy"; break;
                        case "01": rule = "100r 0pqu 100y"; break;
                        case "10": rule = "0pqr 100u 100y"; break;
                        default: rule = "100r 100u 100y"; break;
                    }
            }
        }
        String bits = rule;
        for (int i = 0; i < 10; i++) {
            bits = bits.replace("pqrstuvwxy".charAt(i), declet.charAt(i));
        }
        StringBuilder digits = new StringBuilder();
        for (String digit : bits.split(" ")) {
            digits.append(value(digit));
        }
        return digits.toString();
    }

    static boolean isMade(String declet) {
        boolean free = declet.charAt(6) == '1' && declet.startsWith("11", 7) && declet.startsWith("11", 3);
        return !free || declet.startsWith("00");
    }

    private static BigInteger value(String bits) {
        return bits.isEmpty() ? BigInteger.ZERO : new BigInteger(bits, 2);
    }
}
