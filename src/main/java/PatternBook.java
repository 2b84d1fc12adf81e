/**
 * The patterns of ten formats of numbers: what a pattern is, the pattern that a datum has, and
 * which patterns are made so.
 */
public final class PatternBook {
    public static final int NONE = -1;

    private static final int NUMBER = 0;
    private static final int INFINITY = 1;
    private static final int QUIET = 2;
    private static final int SIGNALLING = 3;

    private final Format[] formats;
    private final Datum datum;
    private final Wide made;
    private final Wide given;
    // canonical() tries a pattern on these, so that what is at hand stays.
    private final Datum trialDatum;
    private final Wide trialPattern;

    public PatternBook() {
        formats = new Format[] {
            new Binary(16, 11, 15),
            new Binary(32, 24, 127),
            new Binary(64, 53, 1023),
            new Binary(128, 113, 16383),
            new PlainDecimal(32, 7, 96),
            new PlainDecimal(64, 16, 384),
            new PlainDecimal(128, 34, 6144),
            new DecletDecimal(32, 7, 96),
            new DecletDecimal(64, 16, 384),
            new DecletDecimal(128, 34, 6144),
        };
        datum = new Datum();
        made = new Wide();
        given = new Wide();
        trialDatum = new Datum();
        trialPattern = new Wide();
    }

    public int unpack(int format, long high, long low) throws IndexOutOfBoundsException {
        Format chosen = formatAt(format);
        chosen.cut(high, low, given);
        chosen.read(given, datum);
        return datum.kind;
    }

    public boolean canonical(int format, long high, long low) throws IndexOutOfBoundsException {
        Format chosen = formatAt(format);
        chosen.cut(high, low, given);
        chosen.read(given, trialDatum);
        return chosen.write(trialDatum, trialPattern) && trialPattern.isSame(given);
    }

    public boolean put(int kind, boolean negative, int exponent, long high, long low) {
        if (kind < NUMBER || kind > SIGNALLING) {
            return false;
        }
        datum.negative = negative;
        datum.body.set(high, low);
        datum.become(kind, exponent);
        return true;
    }

    public boolean pack(int format) throws IndexOutOfBoundsException {
        return formatAt(format).write(datum, made);
    }

    public long pattern(boolean high) {
        return made.half(high);
    }

    public int look(int what) {
        switch (what) {
            case 0:
                return datum.kind;
            case 1:
                return datum.negative ? 1 : 0;
            case 2:
                return datum.exponent;
            default:
                return NONE;
        }
    }

    public long part(boolean high) {
        return datum.body.half(high);
    }

    public int digits(int declet) {
        if (declet < 0 || declet > 1023) {
            return NONE;
        }
        return Declet.read(declet);
    }

    public int declet(int digits) {
        if (digits < 0 || digits > 999) {
            return NONE;
        }
        return Declet.write(digits);
    }

    private Format formatAt(int format) {
        if (format < 0 || format >= formats.length) {
            throw new IndexOutOfBoundsException("no such format");
        }
        return formats[format];
    }

    /** A changeable number of 128 bits without a sign. */
    private static final class Wide {
        private static final long LOW_32 = 0xFFFFFFFFL;

        private long high;
        private long low;

        void set(long newHigh, long newLow) {
            high = newHigh;
            low = newLow;
        }

        void copy(Wide other) {
            set(other.high, other.low);
        }

        long half(boolean ofHigh) {
            return ofHigh ? high : low;
        }

        boolean isZero() {
            return high == 0 && low == 0;
        }

        boolean isSame(Wide other) {
            return high == other.high && low == other.low;
        }

        boolean isAbove(Wide other) {
            if (high == other.high) {
                return Long.compareUnsigned(low, other.low) > 0;
            }
            return Long.compareUnsigned(high, other.high) > 0;
        }

        /** Whether this is less than 2^count, for a count from 0 to 127. */
        boolean fits(int count) {
            if (count >= 64) {
                return high >>> (count - 64) == 0;
            }
            return high == 0 && low >>> count == 0;
        }

        void keepLowest(int count) {
            // A shift of a long by 64 would shift by 0, so whole halves are cases of their own.
            if (count >= 128) {
                return;
            }
            if (count >= 64) {
                high &= ones(count - 64);
            } else {
                high = 0;
                low &= ones(count);
            }
        }

        /** The bits from a place (0 is the lowest) upwards, for a count from 1 to 63. */
        long bitsAt(int place, int count) {
            long from;
            if (place >= 64) {
                from = high >>> (place - 64);
            } else if (place == 0) {
                from = low;
            } else {
                from = (low >>> place) | (high << (64 - place));
            }
            return from & ones(count);
        }

        /** Sets bits that were 0 from a place upwards. */
        void addBits(int place, long bits) {
            if (place >= 64) {
                high |= bits << (place - 64);
                return;
            }
            low |= bits << place;
            if (place > 0) {
                high |= bits >>> (64 - place);
            }
        }

        /** Becomes this * factor + more; both stay below 2^31, so that no step overflows. */
        void timesPlus(int factor, int more) {
            long first = (low & LOW_32) * factor + more;
            long second = (low >>> 32) * factor + (first >>> 32);
            long third = (high & LOW_32) * factor + (second >>> 32);
            long fourth = (high >>> 32) * factor + (third >>> 32);
            low = (second << 32) | (first & LOW_32);
            high = (fourth << 32) | (third & LOW_32);
        }

        /** Takes the last three decimal digits away and answers them. */
        int takeThreeDigits() {
            long first = high >>> 32;
            long second = (first % 1000 << 32) | (high & LOW_32);
            long third = (second % 1000 << 32) | (low >>> 32);
            long fourth = (third % 1000 << 32) | (low & LOW_32);
            high = (first / 1000 << 32) | (second / 1000);
            low = (third / 1000 << 32) | (fourth / 1000);
            return (int) (fourth % 1000);
        }

        static long ones(int count) {
            return (1L << count) - 1;
        }
    }

    /** A NUMBER, an INFINITY or a NAN; the body is the coefficient or the PAYLOAD. */
    private static final class Datum {
        private int kind;
        private boolean negative;
        private int exponent;
        private final Wide body;

        Datum() {
            kind = NUMBER;
            negative = false;
            exponent = 0;
            body = new Wide();
        }

        /** Keeps the sign and, but for an INFINITY, the body. */
        void become(int newKind, int newExponent) {
            kind = newKind;
            exponent = newKind == NUMBER ? newExponent : 0;
            if (newKind == INFINITY) {
                body.set(0, 0);
            }
        }
    }

    /** What all formats share: the sign in the highest bit, and the range of exponents. */
    private abstract static class Format {
        final int bits;
        final int places;
        final int leastExponent;
        final int greatestExponent;

        Format(int bits, int places, int greatest) {
            this.bits = bits;
            this.places = places;
            leastExponent = 2 - greatest - places;
            greatestExponent = greatest + 1 - places;
        }

        /** The bits of a pattern that count. */
        final void cut(long high, long low, Wide to) {
            to.set(high, low);
            to.keepLowest(bits);
        }

        final void read(Wide from, Datum to) {
            to.negative = from.bitsAt(bits - 1, 1) == 1;
            readUnsigned(from, to);
        }

        /** False, with the pattern left as it was, if the format has no pattern of the datum. */
        final boolean write(Datum from, Wide to) {
            if (!has(from)) {
                return false;
            }
            to.set(0, 0);
            writeUnsigned(from, to);
            if (from.negative) {
                to.addBits(bits - 1, 1);
            }
            return true;
        }

        private boolean has(Datum one) {
            switch (one.kind) {
                case NUMBER:
                    return one.exponent >= leastExponent && one.exponent <= greatestExponent
                            && hasNumber(one);
                case INFINITY:
                    return true;
                default:
                    return hasNan(one);
            }
        }

        /** Asked only of NUMBERs with an exponent in range. */
        abstract boolean hasNumber(Datum one);

        abstract boolean hasNan(Datum one);

        abstract void readUnsigned(Wide from, Datum to);

        /** Asked only of data that the format has, and of a pattern that is 0. */
        abstract void writeUnsigned(Datum from, Wide to);
    }

    private static final class Binary extends Format {
        private final int tailBits;
        private final int fieldBits;
        private final long fullField;

        Binary(int bits, int places, int greatest) {
            super(bits, places, greatest);
            tailBits = places - 1;
            fieldBits = bits - places;
            fullField = Wide.ones(fieldBits);
        }

        @Override
        boolean hasNumber(Datum one) {
            if (one.body.fits(tailBits)) {
                return one.exponent == leastExponent;
            }
            return one.body.fits(places);
        }

        @Override
        boolean hasNan(Datum one) {
            // A SIGNALLING one with PAYLOAD 0 would be the pattern of an INFINITY.
            boolean isInfinity = one.kind == SIGNALLING && one.body.isZero();
            return one.body.fits(tailBits - 1) && !isInfinity;
        }

        @Override
        void readUnsigned(Wide from, Datum to) {
            long field = from.bitsAt(tailBits, fieldBits);
            to.body.copy(from);
            to.body.keepLowest(tailBits);
            if (field == fullField) {
                readSpecial(to);
            } else if (field == 0) {
                to.become(NUMBER, leastExponent);
            } else {
                to.body.addBits(tailBits, 1);
                to.become(NUMBER, (int) field - 1 + leastExponent);
            }
        }

        private void readSpecial(Datum to) {
            if (to.body.isZero()) {
                to.become(INFINITY, 0);
                return;
            }
            boolean quiet = to.body.bitsAt(tailBits - 1, 1) == 1;
            to.body.keepLowest(tailBits - 1);
            to.become(quiet ? QUIET : SIGNALLING, 0);
        }

        @Override
        void writeUnsigned(Datum from, Wide to) {
            to.copy(from.body);
            to.keepLowest(tailBits);
            to.addBits(tailBits, fieldOf(from));
            if (from.kind == QUIET) {
                to.addBits(tailBits - 1, 1);
            }
        }

        private long fieldOf(Datum from) {
            if (from.kind != NUMBER) {
                return fullField;
            }
            if (from.body.fits(tailBits)) {
                return 0;
            }
            return from.exponent - leastExponent + 1;
        }
    }

    /** The head is G of the document, the tail T. */
    private abstract static class Decimal extends Format {
        private static final long NAN_MARK = 0b11111;
        private static final long INFINITY_MARK = 0b11110;

        final int declets;
        final int tailBits;
        final int headBits;
        final Wide mostNumber;
        final Wide mostPayload;

        Decimal(int bits, int places, int greatest) {
            super(bits, places, greatest);
            declets = (places - 1) / 3;
            tailBits = 10 * declets;
            headBits = bits / 16 + 9;
            mostNumber = nines(places);
            mostPayload = nines(places - 1);
        }

        private static Wide nines(int count) {
            Wide all = new Wide();
            for (int i = 0; i < count; i++) {
                all.timesPlus(10, 9);
            }
            return all;
        }

        @Override
        final boolean hasNumber(Datum one) {
            return !one.body.isAbove(mostNumber);
        }

        @Override
        final boolean hasNan(Datum one) {
            return !one.body.isAbove(mostPayload);
        }

        @Override
        final void readUnsigned(Wide from, Datum to) {
            long head = from.bitsAt(tailBits, headBits);
            long mark = head >>> (headBits - 5);
            if (mark == NAN_MARK) {
                boolean signalling = (head >>> (headBits - 6) & 1) == 1;
                readBody(0, mostPayload, from, to.body);
                to.become(signalling ? SIGNALLING : QUIET, 0);
            } else if (mark == INFINITY_MARK) {
                to.become(INFINITY, 0);
            } else {
                readBody(leadOf(head), mostNumber, from, to.body);
                to.become(NUMBER, (int) fieldOf(head) + leastExponent);
            }
        }

        @Override
        final void writeUnsigned(Datum from, Wide to) {
            int lead = writeTail(from.body, to);
            to.addBits(tailBits, headFor(from, lead));
        }

        private long headFor(Datum from, int lead) {
            switch (from.kind) {
                case NUMBER:
                    return headOf(from.exponent - leastExponent, lead);
                case INFINITY:
                    return INFINITY_MARK << (headBits - 5);
                case QUIET:
                    return NAN_MARK << (headBits - 5);
                default:
                    return (NAN_MARK << 1 | 1) << (headBits - 6);
            }
        }

        final boolean beginsWithOnes(long head) {
            return head >>> (headBits - 2) == 3;
        }

        /** The field e of a NUMBER's head. */
        abstract long fieldOf(long head);

        /** What a NUMBER's head has of the coefficient, 0 to 9: the part above the tail. */
        abstract int leadOf(long head);

        abstract long headOf(long field, int lead);

        /** The coefficient or PAYLOAD of a lead and the tail; 0 if it is above the most. */
        abstract void readBody(int lead, Wide most, Wide from, Wide body);

        /** Answers the lead that is left above the tail. */
        abstract int writeTail(Wide body, Wide to);
    }

    /** The coefficient is a binary number whose highest bits stand in the head. */
    private static final class PlainDecimal extends Decimal {
        PlainDecimal(int bits, int places, int greatest) {
            super(bits, places, greatest);
        }

        @Override
        long fieldOf(long head) {
            if (beginsWithOnes(head)) {
                return head >>> 1 & Wide.ones(headBits - 3);
            }
            return head >>> 3;
        }

        @Override
        int leadOf(long head) {
            if (beginsWithOnes(head)) {
                return 8 + (int) (head & 1);
            }
            return (int) (head & 7);
        }

        @Override
        long headOf(long field, int lead) {
            if (lead < 8) {
                return field << 3 | lead;
            }
            return 3L << (headBits - 2) | field << 1 | (lead & 1);
        }

        @Override
        void readBody(int lead, Wide most, Wide from, Wide body) {
            body.copy(from);
            body.keepLowest(tailBits);
            body.addBits(tailBits, lead);
            if (body.isAbove(most)) {
                body.set(0, 0);
            }
        }

        @Override
        int writeTail(Wide body, Wide to) {
            to.copy(body);
            to.keepLowest(tailBits);
            return (int) body.bitsAt(tailBits, 4);
        }
    }

    /** The coefficient is a digit in the head and three digits in each declet of the tail. */
    private static final class DecletDecimal extends Decimal {
        private final int restBits;
        private final Wide left;

        DecletDecimal(int bits, int places, int greatest) {
            super(bits, places, greatest);
            restBits = headBits - 5;
            left = new Wide();
        }

        @Override
        long fieldOf(long head) {
            long top = beginsWithOnes(head) ? head >>> (restBits + 1) & 3 : head >>> (restBits + 3);
            return top << restBits | (head & Wide.ones(restBits));
        }

        @Override
        int leadOf(long head) {
            if (beginsWithOnes(head)) {
                return 8 + (int) (head >>> restBits & 1);
            }
            return (int) (head >>> restBits & 7);
        }

        @Override
        long headOf(long field, int lead) {
            long top = field >>> restBits;
            long mark = lead < 8 ? top << 3 | lead : 3 << 3 | top << 1 | (lead & 1);
            return mark << restBits | (field & Wide.ones(restBits));
        }

        @Override
        void readBody(int lead, Wide most, Wide from, Wide body) {
            // Digits can't be above the most: it is all nines.
            body.set(0, lead);
            for (int i = declets - 1; i >= 0; i--) {
                body.timesPlus(1000, Declet.read((int) from.bitsAt(10 * i, 10)));
            }
        }

        @Override
        int writeTail(Wide body, Wide to) {
            left.copy(body);
            for (int i = 0; i < declets; i++) {
                to.addBits(10 * i, Declet.write(left.takeThreeDigits()));
            }
            return (int) left.half(false);
        }
    }

    /** Three digits in ten bits p q r s t u v w x y. */
    private static final class Declet {
        private static final int V = 0b1000;
        private static final int VX = 0b1010;
        private static final int VW = 0b1100;
        private static final int VWX = 0b1110;

        private Declet() {
        }

        static int read(int declet) {
            int pqr = declet >> 7 & 7;
            int stu = declet >> 4 & 7;
            int wxy = declet & 7;
            if ((declet & V) == 0) {
                return join(pqr, stu, wxy);
            }
            int y = wxy & 1;
            switch (wxy >> 1) {
                case 0:
                    return join(pqr, stu, 8 + y);
                case 1:
                    return join(pqr, 8 + (stu & 1), (stu & 6) + y);
                case 2:
                    return join(8 + (pqr & 1), stu, (pqr & 6) + y);
                default:
                    return readTwoLarge(pqr, stu, y);
            }
        }

        /** With v, w and x 1: at least two of the digits are 8 or 9. */
        private static int readTwoLarge(int pqr, int stu, int y) {
            int largeR = 8 + (pqr & 1);
            int largeU = 8 + (stu & 1);
            switch (stu >> 1) {
                case 0:
                    return join(largeR, largeU, (pqr & 6) + y);
                case 1:
                    return join(largeR, (pqr & 6) + (stu & 1), 8 + y);
                case 2:
                    return join(pqr, largeU, 8 + y);
                default:
                    return join(largeR, largeU, 8 + y);
            }
        }

        private static int join(int first, int second, int third) {
            return 100 * first + 10 * second + third;
        }

        static int write(int digits) {
            int first = digits / 100;
            int second = digits / 10 % 10;
            int third = digits % 10;
            // The last bits of the digits are always r, u and y.
            int r = first & 1;
            int u = second & 1;
            int y = third & 1;
            switch ((first & 8) >> 1 | (second & 8) >> 2 | (third & 8) >> 3) {
                case 0b000:
                    return bits(first, second, third);
                case 0b001:
                    return bits(first, second, V | y);
                case 0b010:
                    return bits(first, (third & 6) | u, VX | y);
                case 0b100:
                    return bits((third & 6) | r, second, VW | y);
                case 0b110:
                    return bits((third & 6) | r, u, VWX | y);
                case 0b101:
                    return bits((second & 6) | r, 0b010 | u, VWX | y);
                case 0b011:
                    return bits(first, 0b100 | u, VWX | y);
                default:
                    return bits(r, 0b110 | u, VWX | y);
            }
        }

        private static int bits(int pqr, int stu, int vwxy) {
            return pqr << 7 | stu << 4 | vwxy;
        }
    }
}
