/** The edges of digits() and declet(): the ends of their ranges, and each row of the table. */
public final class DecletEdgeTest {
    public static void main(String[] args) {
        Cases.run(DecletEdgeTest.class);
    }

    private static void reads(String declet, int digits) {
        int value = Integer.parseInt(declet.replace(" ", ""), 2);
        Due.is("digits(" + declet + ")", new PatternBook().digits(value), digits);
    }

    /** The declet that is made of the digits, and read as them. */
    private static void is(String declet, int digits) {
        int value = Integer.parseInt(declet.replace(" ", ""), 2);
        reads(declet, digits);
        Due.is("declet(" + digits + ")", new PatternBook().declet(digits), value);
    }

    static void digitsOf0() {
        Due.is("digits(0)", new PatternBook().digits(0), 0);
    }

    static void digitsOf1023() {
        Due.is("digits(1023)", new PatternBook().digits(1023), 999);
    }

    static void digitsOf1024IsNone() {
        Due.is("digits(1024)", new PatternBook().digits(1024), PatternBook.NONE);
    }

    static void digitsBelow0IsNone() {
        Due.is("digits(-1)", new PatternBook().digits(-1), PatternBook.NONE);
        Due.is("digits(-1024)", new PatternBook().digits(-1024), PatternBook.NONE);
    }

    static void digitsOfTheEndsOfIntIsNone() {
        Due.is("digits(MIN)", new PatternBook().digits(Integer.MIN_VALUE), PatternBook.NONE);
        Due.is("digits(MAX)", new PatternBook().digits(Integer.MAX_VALUE), PatternBook.NONE);
    }

    static void decletOf0() {
        Due.is("declet(0)", new PatternBook().declet(0), 0);
    }

    static void decletOf999() {
        Due.is("declet(999)", new PatternBook().declet(999), 0b0011111111);
    }

    static void decletOf1000IsNone() {
        Due.is("declet(1000)", new PatternBook().declet(1000), PatternBook.NONE);
        Due.is("declet(1023)", new PatternBook().declet(1023), PatternBook.NONE);
    }

    static void decletBelow0IsNone() {
        Due.is("declet(-1)", new PatternBook().declet(-1), PatternBook.NONE);
        Due.is("declet(-999)", new PatternBook().declet(-999), PatternBook.NONE);
    }

    static void decletOfTheEndsOfIntIsNone() {
        Due.is("declet(MIN)", new PatternBook().declet(Integer.MIN_VALUE), PatternBook.NONE);
        Due.is("declet(MAX)", new PatternBook().declet(Integer.MAX_VALUE), PatternBook.NONE);
    }

    static void v0HasThreeSmallDigits() {
        is("000 000 0 001", 1);
        is("000 000 0 111", 7);
        is("000 111 0 000", 70);
        is("111 000 0 000", 700);
        is("111 111 0 111", 777);
    }

    static void wx00HasALargeThirdDigit() {
        is("000 000 1 000", 8);
        is("000 000 1 001", 9);
        is("111 111 1 001", 779);
    }

    static void wx01HasALargeSecondDigit() {
        is("000 000 1 010", 80);
        is("000 001 1 010", 90);
        is("111 111 1 011", 797);
        is("101 100 1 010", 584);
    }

    static void wx10HasALargeFirstDigit() {
        is("000 000 1 100", 800);
        is("001 000 1 100", 900);
        is("111 111 1 101", 977);
        is("100 011 1 100", 834);
    }

    static void wx11St00HasLargeFirstAndSecondDigits() {
        is("000 000 1 110", 880);
        is("111 001 1 111", 997);
        is("010 000 1 111", 883);
    }

    static void wx11St01HasLargeFirstAndThirdDigits() {
        is("000 010 1 110", 808);
        is("111 011 1 111", 979);
        is("010 010 1 111", 829);
    }

    static void wx11St10HasLargeSecondAndThirdDigits() {
        is("000 100 1 110", 88);
        is("111 101 1 111", 799);
        is("010 100 1 111", 289);
    }

    static void wx11St11HasThreeLargeDigits() {
        is("000 110 1 110", 888);
        is("000 110 1 111", 889);
        is("000 111 1 110", 898);
        is("001 110 1 110", 988);
        is("001 111 1 111", 999);
    }

    static void wx11St11WithPOrQ1IsReadAndNeverMade() {
        for (int pq = 1; pq < 4; pq++) {
            String two = Integer.toBinaryString(4 + pq).substring(1);
            reads(two + "0 110 1 110", 888);
            reads(two + "0 110 1 111", 889);
            reads(two + "0 111 1 110", 898);
            reads(two + "0 111 1 111", 899);
            reads(two + "1 110 1 110", 988);
            reads(two + "1 110 1 111", 989);
            reads(two + "1 111 1 110", 998);
            reads(two + "1 111 1 111", 999);
        }
    }

    static void allThreeDigitsComeBack() {
        for (int digits = 0; digits < 1000; digits++) {
            PatternBook book = new PatternBook();
            Due.is("digits(declet(" + digits + "))", book.digits(book.declet(digits)), digits);
        }
    }

    static void allDecletsButTwentyFourComeBack() {
        int others = 0;
        for (int declet = 0; declet < 1024; declet++) {
            PatternBook book = new PatternBook();
            others += book.declet(book.digits(declet)) == declet ? 0 : 1;
        }
        Due.is("declets that are not made", others, 24);
    }
}
