/** Promise 2 with "Terms": the first digit and the exponent of a text with an exponent. */
public final class MakeExponentTest {
    public static void main(String[] args) {
        Subject subject = new Subject("MakeExponentTest");
        firstDigitNotZero(subject);
        firstDigitOfZero(subject);
        oneDigitBeforeThePoint(subject);
        theSignOfTheExponent(subject);
        atLeastTwoDigits(subject);
        atLeastTwoDigitsAfterACarry(subject);
        theLargestAndTheSmallest(subject);
        zeroHasPlusZeroZero(subject);
        smallOrLargeE(subject);
        subject.finish();
    }

    private static void firstDigitNotZero(Subject subject) {
        subject.sentence("one digit (not 0 unless the worth is 0)");
        subject.text(1.0, 1, 0, 0, 0, "1e+00");
        subject.text(0.5, 1, 0, 0, 0, "5e-01");
        subject.text(0.0625, 1, 2, 0, 0, "6.25e-02");
        subject.text(0.001, 1, 0, 0, 0, "1e-03");
        subject.text(1e-15, 1, 0, 0, 0, "1e-15");
        subject.text(1e-16, 1, 15, 0, 0, "1.000000000000000e-16");
        subject.text(Double.MIN_NORMAL, 1, 2, 0, 0, "2.23e-308");
        subject.text(Double.MIN_VALUE, 1, 2, 0, 0, "4.94e-324");
        subject.text(-Double.MIN_VALUE, 2, 2, 0, 0, "-4.94E-324");
    }

    private static void firstDigitOfZero(Subject subject) {
        subject.sentence("not 0 unless the worth is 0: then 0");
        subject.text(0.0, 1, 0, 0, 0, "0e+00");
        subject.text(0.0, 1, 1, 0, 0, "0.0e+00");
        subject.text(0.0, 1, 15, 0, 0, "0.000000000000000e+00");
        subject.text(-0.0, 1, 0, 0, 0, "-0e+00");
        subject.text(-0.0, 1, 15, 0, 0, "-0.000000000000000e+00");
        subject.text(Double.MIN_VALUE, 1, 0, 0, 0, "5e-324");
    }

    private static void oneDigitBeforeThePoint(Subject subject) {
        subject.sentence("one digit, then p decimals");
        subject.text(9.0, 1, 2, 0, 0, "9.00e+00");
        subject.text(10.0, 1, 2, 0, 0, "1.00e+01");
        subject.text(9.984375, 1, 2, 0, 0, "9.98e+00");
        subject.text(9.99609375, 1, 2, 0, 0, "1.00e+01");
        subject.text(9.99609375, 1, 8, 0, 0, "9.99609375e+00");
        subject.text(Math.nextDown(10.0), 1, 15, 0, 0, "9.999999999999998e+00");
        subject.text(Math.nextDown(10.0), 1, 14, 0, 0, "1.00000000000000e+01");
        subject.text(Math.nextDown(1.0), 1, 15, 0, 0, "9.999999999999999e-01");
        subject.text(Math.nextDown(1.0), 1, 14, 0, 0, "1.00000000000000e+00");
        subject.text(123456789.0, 1, 8, 0, 0, "1.23456789e+08");
        subject.text(123456789.0, 1, 15, 0, 0, "1.234567890000000e+08");
    }

    private static void theSignOfTheExponent(Subject subject) {
        subject.sentence("the sign + or - of the exponent of 10");
        subject.text(1.0, 1, 0, 0, 0, "1e+00");
        subject.text(Math.nextDown(1.0), 1, 15, 0, 0, "9.999999999999999e-01");
        subject.text(0.75, 1, 1, 0, 0, "7.5e-01");
        subject.text(0.96875, 1, 0, 0, 0, "1e+00");
        subject.text(0.9375, 1, 0, 0, 0, "9e-01");
        subject.text(10.0, 1, 0, 0, 0, "1e+01");
        subject.text(-10.0, 1, 0, 0, 0, "-1e+01");
        subject.text(-0.125, 1, 2, 0, 2, "-1.25e-01");
        subject.text(0.125, 1, 2, 0, 2, "+1.25e-01");
    }

    private static void atLeastTwoDigits(Subject subject) {
        subject.sentence("its amount with at least two digits");
        subject.text(1e1, 1, 0, 0, 0, "1e+01");
        subject.text(9e9, 1, 0, 0, 0, "9e+09");
        subject.text(1e10, 1, 0, 0, 0, "1e+10");
        subject.text(1e11, 1, 0, 0, 0, "1e+11");
        subject.text(9e99, 1, 0, 0, 0, "9e+99");
        subject.text(2e100, 1, 0, 0, 0, "2e+100");
        subject.text(2e101, 1, 0, 0, 0, "2e+101");
        subject.text(2e110, 1, 0, 0, 0, "2e+110");
        subject.text(2e199, 1, 0, 0, 0, "2e+199");
        subject.text(2e200, 1, 0, 0, 0, "2e+200");
        subject.text(2e-1, 1, 0, 0, 0, "2e-01");
        subject.text(2e-9, 1, 0, 0, 0, "2e-09");
        subject.text(2e-10, 1, 0, 0, 0, "2e-10");
        subject.text(2e-99, 1, 0, 0, 0, "2e-99");
        subject.text(2e-100, 1, 0, 0, 0, "2e-100");
        subject.text(2e-101, 1, 0, 0, 0, "2e-101");
        subject.text(2e-300, 1, 0, 0, 0, "2e-300");
    }

    private static void atLeastTwoDigitsAfterACarry(Subject subject) {
        subject.sentence("the exponent of 10, of the rounded digits");
        subject.text(9.94e9, 1, 1, 0, 0, "9.9e+09");
        subject.text(9.96e9, 1, 1, 0, 0, "1.0e+10");
        subject.text(9.94e99, 1, 1, 0, 0, "9.9e+99");
        subject.text(9.96e99, 1, 1, 0, 0, "1.0e+100");
        subject.text(9.94e-1, 1, 1, 0, 0, "9.9e-01");
        subject.text(9.96e-1, 1, 1, 0, 0, "1.0e+00");
        subject.text(9.94e-10, 1, 1, 0, 0, "9.9e-10");
        subject.text(9.96e-10, 1, 1, 0, 0, "1.0e-09");
        subject.text(9.94e-100, 1, 1, 0, 0, "9.9e-100");
        subject.text(9.96e-100, 1, 1, 0, 0, "1.0e-99");
        subject.text(9.94e307, 1, 1, 0, 0, "9.9e+307");
        subject.text(9.96e307, 1, 1, 0, 0, "1.0e+308");
        subject.text(9.96e-321, 1, 1, 0, 0, "1.0e-320");
        subject.text(9.4, 1, 0, 0, 0, "9e+00");
        subject.text(9.6, 1, 0, 0, 0, "1e+01");
    }

    private static void theLargestAndTheSmallest(Subject subject) {
        subject.sentence("the exponent of the largest and the smallest double");
        subject.text(Double.MAX_VALUE, 1, 0, 0, 0, "2e+308");
        subject.text(Double.MAX_VALUE, 1, 15, 0, 0, "1.797693134862316e+308");
        subject.text(-Double.MAX_VALUE, 2, 15, 0, 0, "-1.797693134862316E+308");
        subject.text(Double.MIN_VALUE, 1, 0, 0, 0, "5e-324");
        subject.text(Double.MIN_VALUE, 1, 15, 0, 0, "4.940656458412465e-324");
        subject.text(2 * Double.MIN_VALUE, 1, 0, 0, 0, "1e-323");
        subject.text(2 * Double.MIN_VALUE, 1, 1, 0, 0, "9.9e-324");
    }

    private static void zeroHasPlusZeroZero(Subject subject) {
        subject.sentence("0 has the exponent +00");
        for (int p = 0; p <= 15; p++) {
            String body = p == 0 ? "0" : "0." + "0".repeat(p);
            subject.text(0.0, 1, p, 0, 0, body + "e+00");
            subject.text(-0.0, 1, p, 0, 0, "-" + body + "e+00");
            subject.text(0.0, 2, p, 0, 0, body + "E+00");
        }
        subject.text(Double.MIN_VALUE, 1, 3, 0, 0, "4.941e-324");
        subject.text(1.0, 1, 3, 0, 0, "1.000e+00");
    }

    private static void smallOrLargeE(Subject subject) {
        subject.sentence("how 0 plain, 1 with e, 2 with E");
        subject.text(250.0, 0, 1, 0, 0, "250.0");
        subject.text(250.0, 1, 1, 0, 0, "2.5e+02");
        subject.text(250.0, 2, 1, 0, 0, "2.5E+02");
        subject.text(-0.0, 0, 0, 0, 0, "-0");
        subject.text(-0.0, 1, 0, 0, 0, "-0e+00");
        subject.text(-0.0, 2, 0, 0, 0, "-0E+00");
    }
}
