/** Promise 2 with "Terms": the texts of infinite doubles. */
public final class MakeInfiniteTest {
    private static final double PLUS = Double.POSITIVE_INFINITY;
    private static final double MINUS = Double.NEGATIVE_INFINITY;

    public static void main(String[] args) {
        Subject subject = new Subject("MakeInfiniteTest");
        theBodyIsInf(subject);
        infiniteOrNot(subject);
        signs(subject);
        noDecimalsPointOrExponent(subject);
        width(subject);
        noZeros(subject);
        refused(subject);
        subject.finish();
    }

    private static void theBodyIsInf(Subject subject) {
        subject.sentence("Of an infinite one the body is inf");
        for (int how = 0; how <= 2; how++) {
            subject.text(PLUS, how, 0, 0, 0, "inf");
            subject.text(MINUS, how, 0, 0, 0, "-inf");
        }
    }

    private static void infiniteOrNot(Subject subject) {
        subject.sentence("infinite: from which bits to which");
        subject.text(0x7FEFFFFFFFFFFFFFL, 1, 3, 0, 0, "1.798e+308");
        subject.text(0x7FF0000000000000L, 1, 3, 0, 0, "inf");
        subject.make(0x7FF0000000000001L, 1, 3, 0, 0, -1);
        subject.text(0xFFEFFFFFFFFFFFFFL, 1, 3, 0, 0, "-1.798e+308");
        subject.text(0xFFF0000000000000L, 1, 3, 0, 0, "-inf");
        subject.make(0xFFF0000000000001L, 1, 3, 0, 0, -1);
    }

    private static void signs(Subject subject) {
        subject.sentence("the sign, of an infinite one too");
        subject.text(PLUS, 0, 0, 0, 2, "+inf");
        subject.text(PLUS, 0, 0, 0, 4, " inf");
        subject.text(PLUS, 0, 0, 0, 6, "+inf");
        subject.text(MINUS, 0, 0, 0, 2, "-inf");
        subject.text(MINUS, 0, 0, 0, 4, "-inf");
        subject.text(MINUS, 0, 0, 0, 6, "-inf");
    }

    private static void noDecimalsPointOrExponent(Subject subject) {
        subject.sentence("the body is inf, whatever p and the point");
        for (int how = 0; how <= 2; how++) {
            subject.text(PLUS, how, 15, 0, 16, "inf");
            subject.text(MINUS, how, 1, 0, 0, "-inf");
            subject.text(PLUS, how, 0, 0, 16, "inf");
        }
    }

    private static void width(Subject subject) {
        subject.sentence("shorter than the WIDTH, of an infinite one");
        subject.text(PLUS, 0, 2, 2, 0, "inf");
        subject.text(PLUS, 0, 2, 3, 0, "inf");
        subject.text(PLUS, 0, 2, 4, 0, " inf");
        subject.text(PLUS, 1, 2, 3, 1, "inf");
        subject.text(PLUS, 1, 2, 4, 1, "inf ");
        subject.text(PLUS, 1, 2, 4, 3, "+inf");
        subject.text(PLUS, 1, 2, 5, 3, "+inf ");
        subject.text(PLUS, 1, 2, 5, 2, " +inf");
        subject.text(PLUS, 1, 2, 5, 4, "  inf");
        subject.text(PLUS, 1, 2, 5, 5, " inf ");
        subject.text(MINUS, 0, 2, 4, 0, "-inf");
        subject.text(MINUS, 0, 2, 5, 0, " -inf");
        subject.text(MINUS, 2, 2, 5, 1, "-inf ");
        subject.text(MINUS, 2, 0, 4, 31, "-inf");
        subject.text(PLUS, 0, 0, 400, 0, " ".repeat(397) + "inf");
        subject.text(MINUS, 0, 0, 400, 1, "-inf" + " ".repeat(396));
    }

    private static void noZeros(Subject subject) {
        subject.sentence("zeros between sign and body (not of an infinite one)");
        subject.text(1.0, 0, 1, 6, 8, "0001.0");
        subject.text(PLUS, 0, 1, 6, 8, "   inf");
        subject.text(PLUS, 1, 1, 6, 10, "  +inf");
        subject.text(PLUS, 2, 1, 6, 12, "   inf");
        subject.text(PLUS, 0, 1, 6, 14, "  +inf");
        subject.text(PLUS, 0, 1, 6, 24, "   inf");
        subject.text(PLUS, 0, 1, 6, 9, "inf   ");
        subject.text(MINUS, 0, 1, 6, 8, "  -inf");
        subject.text(MINUS, 1, 1, 6, 10, "  -inf");
        subject.text(MINUS, 2, 1, 6, 12, "  -inf");
        subject.text(MINUS, 0, 1, 6, 9, "-inf  ");
        subject.text(MINUS, 0, 1, 4, 8, "-inf");
        subject.text(MINUS, 0, 1, 5, 8, " -inf");
    }

    private static void refused(Subject subject) {
        subject.sentence("-1 if an argument is out of range, of an infinite one too");
        for (double infinite : new double[] {PLUS, MINUS}) {
            subject.make(infinite, 3, 0, 0, 0, -1);
            subject.make(infinite, -1, 0, 0, 0, -1);
            subject.make(infinite, 0, 16, 0, 0, -1);
            subject.make(infinite, 0, -1, 0, 0, -1);
            subject.make(infinite, 0, 0, 401, 0, -1);
            subject.make(infinite, 0, 0, -1, 0, -1);
            subject.make(infinite, 0, 0, 0, 32, -1);
            subject.make(infinite, 0, 0, 0, -1, -1);
            subject.holds("");
        }
    }
}
