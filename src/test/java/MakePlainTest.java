/** Promise 2 with "Terms": the whole part, the point and the decimals of a plain text. */
public final class MakePlainTest {
    private static final int POINT = 16;

    public static void main(String[] args) {
        Subject subject = new Subject("MakePlainTest");
        atLeastOneDigit(subject);
        noZeroTooMany(subject);
        zerosInsideStay(subject);
        theMostDigits(subject);
        aPointIfDecimals(subject);
        aPointIfAskedFor(subject);
        everyAmountOfDecimals(subject);
        subject.finish();
    }

    private static void atLeastOneDigit(Subject subject) {
        subject.sentence("the whole part's digits, at least one");
        subject.text(0.0, 0, 0, 0, 0, "0");
        subject.text(0.25, 0, 0, 0, 0, "0");
        subject.text(0.25, 0, 2, 0, 0, "0.25");
        subject.text(0.0625, 0, 4, 0, 0, "0.0625");
        subject.text(Math.nextDown(1.0), 0, 15, 0, 0, "1.000000000000000");
        subject.text(0.984375, 0, 6, 0, 0, "0.984375");
        subject.text(0.984375, 0, 1, 0, 0, "1.0");
        subject.text(1.0, 0, 1, 0, 0, "1.0");
        subject.text(Double.MIN_VALUE, 0, 1, 0, 0, "0.0");
    }

    private static void noZeroTooMany(Subject subject) {
        subject.sentence("no 0 too many before it");
        subject.text(1.0, 0, 0, 0, 0, "1");
        subject.text(9.0, 0, 0, 0, 0, "9");
        subject.text(10.0, 0, 0, 0, 0, "10");
        subject.text(99.0, 0, 0, 0, 0, "99");
        subject.text(100.0, 0, 0, 0, 0, "100");
        subject.text(9.25, 0, 1, 0, 0, "9.2");
        subject.text(9.96875, 0, 1, 0, 0, "10.0");
        subject.text(99.96875, 0, 1, 0, 0, "100.0");
        subject.text(999999999.0, 0, 0, 0, 0, "999999999");
        subject.text(1000000000.0, 0, 0, 0, 0, "1000000000");
        subject.text(999999999999999999.0, 0, 0, 0, 0, "1000000000000000000");
        subject.text(999999999999999872.0, 0, 0, 0, 0, "999999999999999872");
        subject.text(0.5, 0, 1, 0, 0, "0.5");
    }

    private static void zerosInsideStay(Subject subject) {
        subject.sentence("the whole part's digits; then the p decimals, with the zeros among them");
        subject.text(1000000001.0, 0, 0, 0, 0, "1000000001");
        subject.text(1000000000000000.0, 0, 0, 0, 0, "1000000000000000");
        subject.text(100.0078125, 0, 7, 0, 0, "100.0078125");
        subject.text(100.0078125, 0, 2, 0, 0, "100.01");
        subject.text(100.0078125, 0, 1, 0, 0, "100.0");
        subject.text(0.00390625, 0, 8, 0, 0, "0.00390625");
    }

    private static void theMostDigits(Subject subject) {
        subject.sentence("the whole part's digits, of the largest double");
        String digits = new java.math.BigDecimal(Double.MAX_VALUE).toPlainString();
        subject.text(Double.MAX_VALUE, 0, 0, 0, 0, digits);
        subject.text(Double.MAX_VALUE, 0, 15, 0, 0, digits + ".000000000000000");
        subject.text(-Double.MAX_VALUE, 0, 15, 0, 0, "-" + digits + ".000000000000000");
        subject.text(-Double.MAX_VALUE, 0, 0, 0, POINT, "-" + digits + ".");
    }

    private static void aPointIfDecimals(Subject subject) {
        subject.sentence("if p is above 0 a \".\"");
        subject.text(12.0, 0, 0, 0, 0, "12");
        subject.text(12.0, 0, 1, 0, 0, "12.0");
        subject.text(12.0, 0, 2, 0, 0, "12.00");
        subject.text(0.0, 0, 0, 0, 0, "0");
        subject.text(0.0, 0, 1, 0, 0, "0.0");
        subject.text(0.75, 0, 0, 0, 0, "1");
        subject.text(0.75, 0, 1, 0, 0, "0.8");
        subject.text(12.0, 1, 0, 0, 0, "1e+01");
        subject.text(12.0, 1, 1, 0, 0, "1.2e+01");
        subject.text(0.0, 2, 0, 0, 0, "0E+00");
        subject.text(0.0, 2, 1, 0, 0, "0.0E+00");
    }

    private static void aPointIfAskedFor(Subject subject) {
        subject.sentence("or a point is asked for, a \".\"");
        subject.text(12.0, 0, 0, 0, POINT, "12.");
        subject.text(12.0, 0, 1, 0, POINT, "12.0");
        subject.text(0.0, 0, 0, 0, POINT, "0.");
        subject.text(-0.5, 0, 0, 0, POINT, "-0.");
        subject.text(9.5, 0, 0, 0, POINT, "10.");
        subject.text(12.0, 1, 0, 0, POINT, "1.e+01");
        subject.text(12.0, 1, 1, 0, POINT, "1.2e+01");
        subject.text(12.0, 2, 0, 0, POINT, "1.E+01");
        subject.text(0.0, 1, 0, 0, POINT, "0.e+00");
        subject.text(9.5, 1, 0, 0, POINT, "1.e+01");
        subject.text(12.0, 0, 0, 5, POINT, "  12.");
        subject.text(12.0, 0, 0, 5, POINT + 1, "12.  ");
        subject.text(12.0, 0, 0, 5, POINT + 8, "0012.");
        for (int flags = 0; flags < POINT; flags++) {
            String sign = (flags & 2) != 0 ? "+" : (flags & 4) != 0 ? " " : "";
            subject.text(12.0, 0, 0, 0, flags, sign + "12");
            subject.text(12.0, 0, 0, 0, flags + POINT, sign + "12.");
        }
    }

    private static void everyAmountOfDecimals(Subject subject) {
        subject.sentence("then the p decimals");
        String decimals = "152587890625000";
        double value = 3 + 0.152587890625;
        for (int p = 1; p <= 15; p++) {
            if (p >= 12 || decimals.charAt(p) < '5') {
                subject.text(value, 0, p, 0, 0, "3." + decimals.substring(0, p));
                subject.text(value, 1, p, 0, 0, "3." + decimals.substring(0, p) + "e+00");
            }
        }
    }
}
