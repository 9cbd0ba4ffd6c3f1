import java.math.BigInteger;

/** "Terms": the 64 bits of a double, bit by bit, and its worth as a whole number times a power of 2. */
public final class WorthTest {
    private static final int FRACTION_BITS = 52;
    private static final BigInteger FIVE = BigInteger.valueOf(5);

    public static void main(String[] args) {
        Subject subject = new Subject("WorthTest");
        theSignBit(subject);
        everyBitOfTheFraction(subject);
        everyBitOfTheFractionBelowTheNormal(subject);
        everyExponent(subject);
        theSamePowerAtTheLowestTwoExponents(subject);
        wholeNumbersAreWrittenOut(subject);
        subject.finish();
    }

    private static void theSignBit(Subject subject) {
        subject.sentence("the sign bit");
        subject.text(0x3FF0000000000000L, 0, 0, 0, 0, "1");
        subject.text(0xBFF0000000000000L, 0, 0, 0, 0, "-1");
        subject.text(0x0000000000000000L, 0, 0, 0, 0, "0");
        subject.text(0x8000000000000000L, 0, 0, 0, 0, "-0");
        subject.digits(0x3FF0000000000000L, 1);
        subject.digits(0xBFF0000000000000L, 1);
    }

    /** With the exponent field 1075 the worth is the 53 bits themselves. */
    private static void everyBitOfTheFraction(Subject subject) {
        subject.sentence("52 bits");
        long one = 1L << FRACTION_BITS;
        subject.text(1075L << FRACTION_BITS, 0, 0, 0, 0, "4503599627370496");
        for (int bit = 0; bit < FRACTION_BITS; bit++) {
            long fraction = 1L << bit;
            subject.text(1075L << FRACTION_BITS | fraction, 0, 0, 0, 0, Long.toString(one + fraction));
            long others = one - 1 - fraction;
            subject.text(1075L << FRACTION_BITS | others, 0, 0, 0, 0, Long.toString(one + others));
        }
    }

    /** 2^-n has the digits of 5^n. */
    private static void everyBitOfTheFractionBelowTheNormal(Subject subject) {
        subject.sentence("52 bits, with the exponent's 11 bits 0");
        for (int bit = 0; bit < FRACTION_BITS; bit++) {
            subject.digits(1L << bit, length(FIVE.pow(1074 - bit)));
        }
    }

    private static void everyExponent(Subject subject) {
        subject.sentence("11 bits of exponent");
        for (int field = 1; field < 2047; field++) {
            subject.reserve(1);
            BigInteger digits = field < 1023 ? FIVE.pow(1023 - field) : BigInteger.ONE.shiftLeft(field - 1023);
            subject.digits((long) field << FRACTION_BITS, length(digits));
        }
        subject.reserve(1);
        subject.digits(2047L << FRACTION_BITS, -1);
    }

    private static void theSamePowerAtTheLowestTwoExponents(Subject subject) {
        subject.sentence("11 bits of exponent: 0 and 1 mean the same power of 2");
        subject.digits(0x0008000000000001L, length(worthOfUnits((1L << 51) + 1)));
        subject.digits(0x0010000000000001L, length(worthOfUnits((1L << 52) + 1)));
        subject.digits(0x0020000000000001L, length(worthOfUnits((1L << 52) + 1).divide(FIVE)));
        subject.text(0x0008000000000000L, 1, 15, 0, 0, "1.112536929253601e-308");
        subject.text(0x0010000000000000L, 1, 15, 0, 0, "2.225073858507201e-308");
        subject.text(0x0020000000000000L, 1, 15, 0, 0, "4.450147717014403e-308");
    }

    private static void wholeNumbersAreWrittenOut(Subject subject) {
        subject.sentence("a whole number times a power of 2");
        long odd = (1L << FRACTION_BITS) + 1;
        for (int power = 0; power <= 971; power++) {
            long bits = (1075L + power) << FRACTION_BITS | 1;
            subject.text(bits, 0, 0, 0, 0, BigInteger.valueOf(odd).shiftLeft(power).toString());
        }
    }

    private static BigInteger worthOfUnits(long units) {
        return BigInteger.valueOf(units).multiply(FIVE.pow(1074));
    }

    private static int length(BigInteger digits) {
        return digits.toString().length();
    }
}
