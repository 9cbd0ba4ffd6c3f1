/** Promise 2: ordinary texts, written out, and every set of flags. */
public final class MakeTest {
    public static void main(String[] args) {
        Subject subject = new Subject("MakeTest");
        plain(subject);
        withExponent(subject);
        everyFlag(subject);
        subject.finish();
    }

    private static void plain(Subject subject) {
        subject.sentence("Makes the text of a double: how 0 plain");
        subject.text(0.0, 0, 0, 0, 0, "0");
        subject.text(0.0, 0, 2, 0, 0, "0.00");
        subject.text(1.0, 0, 0, 0, 0, "1");
        subject.text(0.5, 0, 0, 0, 0, "0");
        subject.text(1.5, 0, 0, 0, 0, "2");
        subject.text(2.5, 0, 0, 0, 0, "2");
        subject.text(3.5, 0, 0, 0, 0, "4");
        subject.text(0.125, 0, 2, 0, 0, "0.12");
        subject.text(0.375, 0, 2, 0, 0, "0.38");
        subject.text(0.1, 0, 15, 0, 0, "0.100000000000000");
        subject.text(0.3, 0, 15, 0, 0, "0.300000000000000");
        subject.text(9.5, 0, 0, 0, 0, "10");
        subject.text(99.5, 0, 0, 0, 0, "100");
        subject.text(9.995, 0, 2, 0, 0, "9.99");
        subject.text(999.9996, 0, 3, 0, 0, "1000.000");
        subject.text(0.001, 0, 2, 0, 0, "0.00");
        subject.text(0.005, 0, 2, 0, 0, "0.01");
        subject.text(0.015, 0, 2, 0, 0, "0.01");
        subject.text(1234.5678, 0, 2, 0, 0, "1234.57");
        subject.text(1e22, 0, 0, 0, 0, "10000000000000000000000");
        subject.text(1e23, 0, 1, 0, 0, "99999999999999991611392.0");
        subject.text(Double.MIN_VALUE, 0, 15, 0, 0, "0.000000000000000");
        subject.text(5e-16, 0, 15, 0, 0, "0.000000000000001");
        subject.text(5.1e-16, 0, 15, 0, 0, "0.000000000000001");
    }

    private static void withExponent(Subject subject) {
        subject.sentence("Makes the text of a double: 1 with e, 2 with E");
        subject.text(1.0, 1, 0, 0, 0, "1e+00");
        subject.text(9.5, 1, 0, 0, 0, "1e+01");
        subject.text(8.5, 1, 0, 0, 0, "8e+00");
        subject.text(25.0, 1, 0, 0, 0, "2e+01");
        subject.text(35.0, 1, 0, 0, 0, "4e+01");
        subject.text(99995.0, 1, 3, 0, 0, "1.000e+05");
        subject.text(12345.0, 1, 3, 0, 0, "1.234e+04");
        subject.text(12355.0, 1, 3, 0, 0, "1.236e+04");
        subject.text(0.0, 1, 0, 0, 0, "0e+00");
        subject.text(0.0, 1, 3, 0, 0, "0.000e+00");
        subject.text(0.0, 2, 15, 0, 0, "0.000000000000000E+00");
        subject.text(Double.MIN_VALUE, 1, 15, 0, 0, "4.940656458412465e-324");
        subject.text(Double.MIN_VALUE, 2, 0, 0, 0, "5E-324");
        subject.text(Double.MAX_VALUE, 1, 15, 0, 0, "1.797693134862316e+308");
        subject.text(Double.MAX_VALUE, 2, 2, 0, 0, "1.80E+308");
        subject.text(1e99, 1, 1, 0, 0, "1.0e+99");
        subject.text(9.99e99, 1, 1, 0, 0, "1.0e+100");
        subject.text(9.99e-100, 1, 1, 0, 0, "1.0e-99");
        subject.text(1e100, 1, 0, 0, 0, "1e+100");
        subject.text(1e-5, 1, 5, 0, 0, "1.00000e-05");
        subject.text(0.1, 1, 15, 0, 0, "1.000000000000000e-01");
        subject.text(123456.789, 2, 6, 0, 0, "1.234568E+05");
        subject.text(9.999999e9, 1, 3, 0, 0, "1.000e+10");
    }

    private static void everyFlag(Subject subject) {
        subject.sentence("flags: 1 blanks behind, 2 \"+\", 4 a blank as sign, 8 zeros, 16 a point always");
        subject.text(1.5, 0, 0, 8, 0, "       2");
        subject.text(1.5, 0, 0, 8, 1, "2       ");
        subject.text(1.5, 0, 0, 8, 2, "      +2");
        subject.text(1.5, 0, 0, 8, 3, "+2      ");
        subject.text(1.5, 0, 0, 8, 4, "       2");
        subject.text(1.5, 0, 0, 8, 5, " 2      ");
        subject.text(1.5, 0, 0, 8, 6, "      +2");
        subject.text(1.5, 0, 0, 8, 7, "+2      ");
        subject.text(1.5, 0, 0, 8, 8, "00000002");
        subject.text(1.5, 0, 0, 8, 9, "2       ");
        subject.text(1.5, 0, 0, 8, 10, "+0000002");
        subject.text(1.5, 0, 0, 8, 11, "+2      ");
        subject.text(1.5, 0, 0, 8, 12, " 0000002");
        subject.text(1.5, 0, 0, 8, 13, " 2      ");
        subject.text(1.5, 0, 0, 8, 14, "+0000002");
        subject.text(1.5, 0, 0, 8, 15, "+2      ");
        subject.text(1.5, 0, 0, 8, 16, "      2.");
        subject.text(1.5, 0, 0, 8, 17, "2.      ");
        subject.text(1.5, 0, 0, 8, 18, "     +2.");
        subject.text(1.5, 0, 0, 8, 19, "+2.     ");
        subject.text(1.5, 0, 0, 8, 20, "      2.");
        subject.text(1.5, 0, 0, 8, 21, " 2.     ");
        subject.text(1.5, 0, 0, 8, 22, "     +2.");
        subject.text(1.5, 0, 0, 8, 23, "+2.     ");
        subject.text(1.5, 0, 0, 8, 24, "0000002.");
        subject.text(1.5, 0, 0, 8, 25, "2.      ");
        subject.text(1.5, 0, 0, 8, 26, "+000002.");
        subject.text(1.5, 0, 0, 8, 27, "+2.     ");
        subject.text(1.5, 0, 0, 8, 28, " 000002.");
        subject.text(1.5, 0, 0, 8, 29, " 2.     ");
        subject.text(1.5, 0, 0, 8, 30, "+000002.");
        subject.text(1.5, 0, 0, 8, 31, "+2.     ");
        subject.text(-250.0, 1, 0, 10, 0, "    -2e+02");
        subject.text(-250.0, 1, 0, 10, 1, "-2e+02    ");
        subject.text(-250.0, 1, 0, 10, 2, "    -2e+02");
        subject.text(-250.0, 1, 0, 10, 3, "-2e+02    ");
        subject.text(-250.0, 1, 0, 10, 4, "    -2e+02");
        subject.text(-250.0, 1, 0, 10, 5, "-2e+02    ");
        subject.text(-250.0, 1, 0, 10, 6, "    -2e+02");
        subject.text(-250.0, 1, 0, 10, 7, "-2e+02    ");
        subject.text(-250.0, 1, 0, 10, 8, "-00002e+02");
        subject.text(-250.0, 1, 0, 10, 9, "-2e+02    ");
        subject.text(-250.0, 1, 0, 10, 10, "-00002e+02");
        subject.text(-250.0, 1, 0, 10, 11, "-2e+02    ");
        subject.text(-250.0, 1, 0, 10, 12, "-00002e+02");
        subject.text(-250.0, 1, 0, 10, 13, "-2e+02    ");
        subject.text(-250.0, 1, 0, 10, 14, "-00002e+02");
        subject.text(-250.0, 1, 0, 10, 15, "-2e+02    ");
        subject.text(-250.0, 1, 0, 10, 16, "   -2.e+02");
        subject.text(-250.0, 1, 0, 10, 17, "-2.e+02   ");
        subject.text(-250.0, 1, 0, 10, 18, "   -2.e+02");
        subject.text(-250.0, 1, 0, 10, 19, "-2.e+02   ");
        subject.text(-250.0, 1, 0, 10, 20, "   -2.e+02");
        subject.text(-250.0, 1, 0, 10, 21, "-2.e+02   ");
        subject.text(-250.0, 1, 0, 10, 22, "   -2.e+02");
        subject.text(-250.0, 1, 0, 10, 23, "-2.e+02   ");
        subject.text(-250.0, 1, 0, 10, 24, "-0002.e+02");
        subject.text(-250.0, 1, 0, 10, 25, "-2.e+02   ");
        subject.text(-250.0, 1, 0, 10, 26, "-0002.e+02");
        subject.text(-250.0, 1, 0, 10, 27, "-2.e+02   ");
        subject.text(-250.0, 1, 0, 10, 28, "-0002.e+02");
        subject.text(-250.0, 1, 0, 10, 29, "-2.e+02   ");
        subject.text(-250.0, 1, 0, 10, 30, "-0002.e+02");
        subject.text(-250.0, 1, 0, 10, 31, "-2.e+02   ");
    }
}
