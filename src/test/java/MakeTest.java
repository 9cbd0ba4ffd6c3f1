/** Promise 2: texts written out, the arguments that are refused, and what happens to the text then. */
public final class MakeTest {
    private static final long ONE = Double.doubleToRawLongBits(1.0);

    public static void main(String[] args) {
        Subject subject = new Subject("MakeTest");
        plain(subject);
        withExponent(subject);
        signs(subject);
        points(subject);
        everyFlag(subject);
        widths(subject);
        infinite(subject);
        longest(subject);
        limitsAllowed(subject);
        refused(subject);
        refusedKeepsTheText(subject);
        subject.finish();
    }

    private static void plain(Subject subject) {
        subject.text(0.0, 0, 0, 0, 0, "0");
        subject.text(0.0, 0, 2, 0, 0, "0.00");
        subject.text(1.0, 0, 0, 0, 0, "1");
        subject.text(0.5, 0, 0, 0, 0, "0");
        subject.text(1.5, 0, 0, 0, 0, "2");
        subject.text(2.5, 0, 0, 0, 0, "2");
        subject.text(3.5, 0, 0, 0, 0, "4");
        subject.text(0.125, 0, 2, 0, 0, "0.12");
        subject.text(0.375, 0, 2, 0, 0, "0.38");
        subject.text(0.1, 0, 15, 0, 0, "0.100000000000000");
        subject.text(0.3, 0, 15, 0, 0, "0.300000000000000");
        subject.text(9.5, 0, 0, 0, 0, "10");
        subject.text(99.5, 0, 0, 0, 0, "100");
        subject.text(9.995, 0, 2, 0, 0, "9.99");
        subject.text(999.9996, 0, 3, 0, 0, "1000.000");
        subject.text(0.001, 0, 2, 0, 0, "0.00");
        subject.text(0.005, 0, 2, 0, 0, "0.01");
        subject.text(0.015, 0, 2, 0, 0, "0.01");
        subject.text(1234.5678, 0, 2, 0, 0, "1234.57");
        subject.text(1e22, 0, 0, 0, 0, "10000000000000000000000");
        subject.text(1e23, 0, 1, 0, 0, "99999999999999991611392.0");
        subject.text(Double.MIN_VALUE, 0, 15, 0, 0, "0.000000000000000");
        subject.text(5e-16, 0, 15, 0, 0, "0.000000000000001");
        subject.text(5.1e-16, 0, 15, 0, 0, "0.000000000000001");
    }

    private static void withExponent(Subject subject) {
        subject.text(1.0, 1, 0, 0, 0, "1e+00");
        subject.text(9.5, 1, 0, 0, 0, "1e+01");
        subject.text(8.5, 1, 0, 0, 0, "8e+00");
        subject.text(25.0, 1, 0, 0, 0, "2e+01");
        subject.text(35.0, 1, 0, 0, 0, "4e+01");
        subject.text(99995.0, 1, 3, 0, 0, "1.000e+05");
        subject.text(12345.0, 1, 3, 0, 0, "1.234e+04");
        subject.text(12355.0, 1, 3, 0, 0, "1.236e+04");
        subject.text(0.0, 1, 0, 0, 0, "0e+00");
        subject.text(0.0, 1, 3, 0, 0, "0.000e+00");
        subject.text(0.0, 2, 15, 0, 0, "0.000000000000000E+00");
        subject.text(Double.MIN_VALUE, 1, 15, 0, 0, "4.940656458412465e-324");
        subject.text(Double.MIN_VALUE, 2, 0, 0, 0, "5E-324");
        subject.text(Double.MAX_VALUE, 1, 15, 0, 0, "1.797693134862316e+308");
        subject.text(Double.MAX_VALUE, 2, 2, 0, 0, "1.80E+308");
        subject.text(1e99, 1, 1, 0, 0, "1.0e+99");
        subject.text(9.99e99, 1, 1, 0, 0, "1.0e+100");
        subject.text(9.99e-100, 1, 1, 0, 0, "1.0e-99");
        subject.text(1e100, 1, 0, 0, 0, "1e+100");
        subject.text(1e-5, 1, 5, 0, 0, "1.00000e-05");
        subject.text(0.1, 1, 15, 0, 0, "1.000000000000000e-01");
        subject.text(123456.789, 2, 6, 0, 0, "1.234568E+05");
        subject.text(9.999999e9, 1, 3, 0, 0, "1.000e+10");
    }

    private static void signs(Subject subject) {
        subject.text(1.5, 0, 1, 0, 0, "1.5");
        subject.text(1.5, 0, 1, 0, 2, "+1.5");
        subject.text(1.5, 0, 1, 0, 4, " 1.5");
        subject.text(1.5, 0, 1, 0, 6, "+1.5");
        subject.text(-1.5, 0, 1, 0, 0, "-1.5");
        subject.text(-1.5, 0, 1, 0, 2, "-1.5");
        subject.text(-1.5, 0, 1, 0, 4, "-1.5");
        subject.text(-1.5, 0, 1, 0, 6, "-1.5");
        subject.text(0.0, 0, 1, 0, 0, "0.0");
        subject.text(0.0, 0, 1, 0, 2, "+0.0");
        subject.text(0.0, 0, 1, 0, 4, " 0.0");
        subject.text(0.0, 0, 1, 0, 6, "+0.0");
        subject.text(-0.0, 0, 1, 0, 0, "-0.0");
        subject.text(-0.0, 0, 1, 0, 2, "-0.0");
        subject.text(-0.0, 0, 1, 0, 4, "-0.0");
        subject.text(-0.0, 0, 1, 0, 6, "-0.0");
        subject.text(1.5, 1, 1, 0, 0, "1.5e+00");
        subject.text(1.5, 1, 1, 0, 2, "+1.5e+00");
        subject.text(1.5, 1, 1, 0, 4, " 1.5e+00");
        subject.text(1.5, 1, 1, 0, 6, "+1.5e+00");
        subject.text(-1.5, 1, 1, 0, 0, "-1.5e+00");
        subject.text(-1.5, 1, 1, 0, 2, "-1.5e+00");
        subject.text(-1.5, 1, 1, 0, 4, "-1.5e+00");
        subject.text(-1.5, 1, 1, 0, 6, "-1.5e+00");
        subject.text(0.0, 1, 1, 0, 0, "0.0e+00");
        subject.text(0.0, 1, 1, 0, 2, "+0.0e+00");
        subject.text(0.0, 1, 1, 0, 4, " 0.0e+00");
        subject.text(0.0, 1, 1, 0, 6, "+0.0e+00");
        subject.text(-0.0, 1, 1, 0, 0, "-0.0e+00");
        subject.text(-0.0, 1, 1, 0, 2, "-0.0e+00");
        subject.text(-0.0, 1, 1, 0, 4, "-0.0e+00");
        subject.text(-0.0, 1, 1, 0, 6, "-0.0e+00");
        subject.text(-0.001, 0, 2, 0, 0, "-0.00");
        subject.text(-0.001, 0, 2, 0, 2, "-0.00");
        subject.text(-0.4, 0, 0, 0, 0, "-0");
    }

    private static void points(Subject subject) {
        subject.text(0.0, 0, 0, 0, 16, "0.");
        subject.text(0.0, 0, 1, 0, 16, "0.0");
        subject.text(0.0, 1, 0, 0, 16, "0.e+00");
        subject.text(0.0, 1, 1, 0, 16, "0.0e+00");
        subject.text(0.0, 2, 0, 0, 16, "0.E+00");
        subject.text(0.0, 2, 1, 0, 16, "0.0E+00");
        subject.text(12.0, 0, 0, 0, 16, "12.");
        subject.text(12.0, 0, 1, 0, 16, "12.0");
        subject.text(12.0, 1, 0, 0, 16, "1.e+01");
        subject.text(12.0, 1, 1, 0, 16, "1.2e+01");
        subject.text(12.0, 2, 0, 0, 16, "1.E+01");
        subject.text(12.0, 2, 1, 0, 16, "1.2E+01");
        subject.text(-0.5, 0, 0, 0, 16, "-0.");
        subject.text(-0.5, 0, 1, 0, 16, "-0.5");
        subject.text(-0.5, 1, 0, 0, 16, "-5.e-01");
        subject.text(-0.5, 1, 1, 0, 16, "-5.0e-01");
        subject.text(-0.5, 2, 0, 0, 16, "-5.E-01");
        subject.text(-0.5, 2, 1, 0, 16, "-5.0E-01");
    }

    private static void everyFlag(Subject subject) {
        subject.text(1.5, 0, 0, 8, 0, "       2");
        subject.text(1.5, 0, 0, 8, 1, "2       ");
        subject.text(1.5, 0, 0, 8, 2, "      +2");
        subject.text(1.5, 0, 0, 8, 3, "+2      ");
        subject.text(1.5, 0, 0, 8, 4, "       2");
        subject.text(1.5, 0, 0, 8, 5, " 2      ");
        subject.text(1.5, 0, 0, 8, 6, "      +2");
        subject.text(1.5, 0, 0, 8, 7, "+2      ");
        subject.text(1.5, 0, 0, 8, 8, "00000002");
        subject.text(1.5, 0, 0, 8, 9, "2       ");
        subject.text(1.5, 0, 0, 8, 10, "+0000002");
        subject.text(1.5, 0, 0, 8, 11, "+2      ");
        subject.text(1.5, 0, 0, 8, 12, " 0000002");
        subject.text(1.5, 0, 0, 8, 13, " 2      ");
        subject.text(1.5, 0, 0, 8, 14, "+0000002");
        subject.text(1.5, 0, 0, 8, 15, "+2      ");
        subject.text(1.5, 0, 0, 8, 16, "      2.");
        subject.text(1.5, 0, 0, 8, 17, "2.      ");
        subject.text(1.5, 0, 0, 8, 18, "     +2.");
        subject.text(1.5, 0, 0, 8, 19, "+2.     ");
        subject.text(1.5, 0, 0, 8, 20, "      2.");
        subject.text(1.5, 0, 0, 8, 21, " 2.     ");
        subject.text(1.5, 0, 0, 8, 22, "     +2.");
        subject.text(1.5, 0, 0, 8, 23, "+2.     ");
        subject.text(1.5, 0, 0, 8, 24, "0000002.");
        subject.text(1.5, 0, 0, 8, 25, "2.      ");
        subject.text(1.5, 0, 0, 8, 26, "+000002.");
        subject.text(1.5, 0, 0, 8, 27, "+2.     ");
        subject.text(1.5, 0, 0, 8, 28, " 000002.");
        subject.text(1.5, 0, 0, 8, 29, " 2.     ");
        subject.text(1.5, 0, 0, 8, 30, "+000002.");
        subject.text(1.5, 0, 0, 8, 31, "+2.     ");
        subject.text(-250.0, 1, 0, 10, 0, "    -2e+02");
        subject.text(-250.0, 1, 0, 10, 1, "-2e+02    ");
        subject.text(-250.0, 1, 0, 10, 2, "    -2e+02");
        subject.text(-250.0, 1, 0, 10, 3, "-2e+02    ");
        subject.text(-250.0, 1, 0, 10, 4, "    -2e+02");
        subject.text(-250.0, 1, 0, 10, 5, "-2e+02    ");
        subject.text(-250.0, 1, 0, 10, 6, "    -2e+02");
        subject.text(-250.0, 1, 0, 10, 7, "-2e+02    ");
        subject.text(-250.0, 1, 0, 10, 8, "-00002e+02");
        subject.text(-250.0, 1, 0, 10, 9, "-2e+02    ");
        subject.text(-250.0, 1, 0, 10, 10, "-00002e+02");
        subject.text(-250.0, 1, 0, 10, 11, "-2e+02    ");
        subject.text(-250.0, 1, 0, 10, 12, "-00002e+02");
        subject.text(-250.0, 1, 0, 10, 13, "-2e+02    ");
        subject.text(-250.0, 1, 0, 10, 14, "-00002e+02");
        subject.text(-250.0, 1, 0, 10, 15, "-2e+02    ");
        subject.text(-250.0, 1, 0, 10, 16, "   -2.e+02");
        subject.text(-250.0, 1, 0, 10, 17, "-2.e+02   ");
        subject.text(-250.0, 1, 0, 10, 18, "   -2.e+02");
        subject.text(-250.0, 1, 0, 10, 19, "-2.e+02   ");
        subject.text(-250.0, 1, 0, 10, 20, "   -2.e+02");
        subject.text(-250.0, 1, 0, 10, 21, "-2.e+02   ");
        subject.text(-250.0, 1, 0, 10, 22, "   -2.e+02");
        subject.text(-250.0, 1, 0, 10, 23, "-2.e+02   ");
        subject.text(-250.0, 1, 0, 10, 24, "-0002.e+02");
        subject.text(-250.0, 1, 0, 10, 25, "-2.e+02   ");
        subject.text(-250.0, 1, 0, 10, 26, "-0002.e+02");
        subject.text(-250.0, 1, 0, 10, 27, "-2.e+02   ");
        subject.text(-250.0, 1, 0, 10, 28, "-0002.e+02");
        subject.text(-250.0, 1, 0, 10, 29, "-2.e+02   ");
        subject.text(-250.0, 1, 0, 10, 30, "-0002.e+02");
        subject.text(-250.0, 1, 0, 10, 31, "-2.e+02   ");
    }

    private static void widths(Subject subject) {
        subject.text(1.5, 0, 1, 1, 0, "1.5");
        subject.text(1.5, 0, 1, 1, 1, "1.5");
        subject.text(1.5, 0, 1, 1, 2, "+1.5");
        subject.text(1.5, 0, 1, 1, 8, "1.5");
        subject.text(1.5, 0, 1, 1, 10, "+1.5");
        subject.text(1.5, 0, 1, 3, 0, "1.5");
        subject.text(1.5, 0, 1, 3, 1, "1.5");
        subject.text(1.5, 0, 1, 3, 2, "+1.5");
        subject.text(1.5, 0, 1, 3, 8, "1.5");
        subject.text(1.5, 0, 1, 3, 10, "+1.5");
        subject.text(1.5, 0, 1, 4, 0, " 1.5");
        subject.text(1.5, 0, 1, 4, 1, "1.5 ");
        subject.text(1.5, 0, 1, 4, 2, "+1.5");
        subject.text(1.5, 0, 1, 4, 8, "01.5");
        subject.text(1.5, 0, 1, 4, 10, "+1.5");
        subject.text(1.5, 0, 1, 5, 0, "  1.5");
        subject.text(1.5, 0, 1, 5, 1, "1.5  ");
        subject.text(1.5, 0, 1, 5, 2, " +1.5");
        subject.text(1.5, 0, 1, 5, 8, "001.5");
        subject.text(1.5, 0, 1, 5, 10, "+01.5");
        subject.text(-250.0, 2, 1, 7, 0, "-2.5E+02");
        subject.text(-250.0, 2, 1, 7, 1, "-2.5E+02");
        subject.text(-250.0, 2, 1, 7, 2, "-2.5E+02");
        subject.text(-250.0, 2, 1, 7, 8, "-2.5E+02");
        subject.text(-250.0, 2, 1, 7, 10, "-2.5E+02");
        subject.text(-250.0, 2, 1, 8, 0, "-2.5E+02");
        subject.text(-250.0, 2, 1, 8, 1, "-2.5E+02");
        subject.text(-250.0, 2, 1, 8, 2, "-2.5E+02");
        subject.text(-250.0, 2, 1, 8, 8, "-2.5E+02");
        subject.text(-250.0, 2, 1, 8, 10, "-2.5E+02");
        subject.text(-250.0, 2, 1, 9, 0, " -2.5E+02");
        subject.text(-250.0, 2, 1, 9, 1, "-2.5E+02 ");
        subject.text(-250.0, 2, 1, 9, 2, " -2.5E+02");
        subject.text(-250.0, 2, 1, 9, 8, "-02.5E+02");
        subject.text(-250.0, 2, 1, 9, 10, "-02.5E+02");
        subject.text(-250.0, 2, 1, 10, 0, "  -2.5E+02");
        subject.text(-250.0, 2, 1, 10, 1, "-2.5E+02  ");
        subject.text(-250.0, 2, 1, 10, 2, "  -2.5E+02");
        subject.text(-250.0, 2, 1, 10, 8, "-002.5E+02");
        subject.text(-250.0, 2, 1, 10, 10, "-002.5E+02");
    }

    private static void infinite(Subject subject) {
        subject.text(Double.POSITIVE_INFINITY, 0, 0, 0, 0, "inf");
        subject.text(Double.POSITIVE_INFINITY, 1, 15, 0, 16, "inf");
        subject.text(Double.POSITIVE_INFINITY, 0, 0, 0, 2, "+inf");
        subject.text(Double.POSITIVE_INFINITY, 0, 0, 0, 4, " inf");
        subject.text(Double.POSITIVE_INFINITY, 0, 2, 3, 0, "inf");
        subject.text(Double.POSITIVE_INFINITY, 0, 2, 4, 0, " inf");
        subject.text(Double.POSITIVE_INFINITY, 0, 2, 6, 0, "   inf");
        subject.text(Double.POSITIVE_INFINITY, 1, 2, 6, 1, "inf   ");
        subject.text(Double.POSITIVE_INFINITY, 0, 2, 6, 8, "   inf");
        subject.text(Double.POSITIVE_INFINITY, 0, 2, 6, 9, "inf   ");
        subject.text(Double.POSITIVE_INFINITY, 0, 2, 6, 10, "  +inf");
        subject.text(Double.POSITIVE_INFINITY, 0, 2, 6, 12, "   inf");
        subject.text(Double.NEGATIVE_INFINITY, 0, 0, 0, 0, "-inf");
        subject.text(Double.NEGATIVE_INFINITY, 1, 15, 0, 16, "-inf");
        subject.text(Double.NEGATIVE_INFINITY, 0, 0, 0, 2, "-inf");
        subject.text(Double.NEGATIVE_INFINITY, 0, 0, 0, 4, "-inf");
        subject.text(Double.NEGATIVE_INFINITY, 0, 2, 3, 0, "-inf");
        subject.text(Double.NEGATIVE_INFINITY, 0, 2, 4, 0, "-inf");
        subject.text(Double.NEGATIVE_INFINITY, 0, 2, 6, 0, "  -inf");
        subject.text(Double.NEGATIVE_INFINITY, 1, 2, 6, 1, "-inf  ");
        subject.text(Double.NEGATIVE_INFINITY, 0, 2, 6, 8, "  -inf");
        subject.text(Double.NEGATIVE_INFINITY, 0, 2, 6, 9, "-inf  ");
        subject.text(Double.NEGATIVE_INFINITY, 0, 2, 6, 10, "  -inf");
        subject.text(Double.NEGATIVE_INFINITY, 0, 2, 6, 12, "  -inf");
        subject.text(Double.NEGATIVE_INFINITY, 2, 0, 4, 31, "-inf");
        subject.text(Double.POSITIVE_INFINITY, 2, 0, 0, 0, "inf");
    }

    private static void longest(Subject subject) {
        long bits = Double.doubleToRawLongBits(-Double.MAX_VALUE);
        String text = new java.math.BigDecimal(-Double.MAX_VALUE).toPlainString() + "." + "0".repeat(15);
        subject.text(bits, 0, 15, 0, 0, text);
        subject.text(bits, 0, 15, 326, 8, text);
        subject.text(bits, 0, 15, 327, 0, " " + text);
        subject.text(bits, 0, 15, 400, 1, text + " ".repeat(74));
        subject.text(bits, 0, 15, 400, 8, "-" + "0".repeat(74) + text.substring(1));
    }

    private static void limitsAllowed(Subject subject) {
        subject.text(ONE, 0, 0, 0, 0, "1");
        subject.text(ONE, 2, 15, 0, 0, "1.000000000000000E+00");
        subject.text(ONE, 0, 0, 400, 0, " ".repeat(399) + "1");
        subject.text(ONE, 0, 0, 400, 31, "+1." + " ".repeat(397));
        subject.text(ONE, 2, 15, 400, 30, "+" + "0".repeat(378) + "1.000000000000000E+00");
    }

    private static void refused(Subject subject) {
        subject.renew();
        int[] extremes = {-1, Integer.MIN_VALUE, Integer.MAX_VALUE};
        for (int wrong : extremes) {
            subject.make(ONE, wrong, 0, 0, 0, -1);
            subject.make(ONE, 0, wrong, 0, 0, -1);
            subject.make(ONE, 0, 0, wrong, 0, -1);
            subject.make(ONE, 0, 0, 0, wrong, -1);
        }
        subject.make(ONE, 3, 0, 0, 0, -1);
        subject.make(ONE, 0, 16, 0, 0, -1);
        subject.make(ONE, 0, 0, 401, 0, -1);
        subject.make(ONE, 0, 0, 0, 32, -1);
        subject.make(ONE, 0, 0, 0, 33, -1);
        long infinite = 0x7FF0000000000000L;
        subject.make(infinite, 3, 0, 0, 0, -1);
        subject.make(infinite, 0, 16, 0, 0, -1);
        subject.make(infinite, 0, 0, 401, 0, -1);
        subject.make(infinite, 0, 0, 0, 32, -1);
        subject.holds("");
    }

    private static void refusedKeepsTheText(Subject subject) {
        long[] noNumbers = {0x7FF0000000000001L, 0x7FF8000000000000L, 0x7FFFFFFFFFFFFFFFL,
            0xFFF0000000000001L, 0xFFF8000000000000L, 0xFFFFFFFFFFFFFFFFL};
        subject.renew();
        subject.make(Double.doubleToRawLongBits(-2.75), 0, 1, 6, 0, 6);
        for (long bits : noNumbers) {
            for (int how = 0; how <= 2; how++) {
                subject.make(bits, how, 2, 9, 2, -1);
                subject.holds("  -2.8");
            }
        }
        subject.make(ONE, 3, 2, 9, 2, -1);
        subject.holds("  -2.8");
        subject.make(ONE, 0, 16, 9, 2, -1);
        subject.holds("  -2.8");
        subject.make(ONE, 0, 2, 401, 2, -1);
        subject.holds("  -2.8");
        subject.make(ONE, 0, 2, 9, 32, -1);
        subject.holds("  -2.8");
    }
}
