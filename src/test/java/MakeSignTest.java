/** Promise 2 with "Terms": the sign of a text. */
public final class MakeSignTest {
    private static final int PLUS = 2;
    private static final int BLANK = 4;

    public static void main(String[] args) {
        Subject subject = new Subject("MakeSignTest");
        minusOfTheSignBit(subject);
        minusOfMinusZero(subject);
        minusOfWhatRoundsToZero(subject);
        plusIfAskedFor(subject);
        blankIfAskedFor(subject);
        plusBeforeBlank(subject);
        elseNothing(subject);
        subject.finish();
    }

    private static void minusOfTheSignBit(Subject subject) {
        subject.sentence("\"-\" if the sign bit is 1");
        subject.text(-1.5, 0, 1, 0, 0, "-1.5");
        subject.text(1.5, 0, 1, 0, 0, "1.5");
        subject.text(-1.5, 1, 1, 0, 0, "-1.5e+00");
        subject.text(1.5, 1, 1, 0, 0, "1.5e+00");
        subject.text(-1.5, 2, 1, 0, 0, "-1.5E+00");
        subject.text(1.5, 2, 1, 0, 0, "1.5E+00");
        subject.text(0x8000000000000001L, 1, 0, 0, 0, "-5e-324");
        subject.text(0x0000000000000001L, 1, 0, 0, 0, "5e-324");
        subject.text(0xFFEFFFFFFFFFFFFFL, 1, 0, 0, 0, "-2e+308");
        subject.text(0x7FEFFFFFFFFFFFFFL, 1, 0, 0, 0, "2e+308");
        subject.text(-1.5, 0, 1, 0, PLUS, "-1.5");
        subject.text(-1.5, 0, 1, 0, BLANK, "-1.5");
        subject.text(-1.5, 0, 1, 0, PLUS + BLANK, "-1.5");
        subject.text(-1.5, 1, 1, 0, PLUS, "-1.5e+00");
        subject.text(-1.5, 1, 1, 0, BLANK, "-1.5e+00");
        subject.text(-1.5, 1, 1, 0, PLUS + BLANK, "-1.5e+00");
    }

    private static void minusOfMinusZero(Subject subject) {
        subject.sentence("\"-\" of -0.0 too");
        subject.text(-0.0, 0, 0, 0, 0, "-0");
        subject.text(0.0, 0, 0, 0, 0, "0");
        subject.text(-0.0, 0, 2, 0, 0, "-0.00");
        subject.text(0.0, 0, 2, 0, 0, "0.00");
        subject.text(-0.0, 1, 1, 0, 0, "-0.0e+00");
        subject.text(0.0, 1, 1, 0, 0, "0.0e+00");
        subject.text(-0.0, 2, 0, 0, 0, "-0E+00");
        subject.text(0.0, 2, 0, 0, 0, "0E+00");
        subject.text(-0.0, 0, 1, 0, PLUS, "-0.0");
        subject.text(-0.0, 0, 1, 0, BLANK, "-0.0");
        subject.text(-0.0, 0, 1, 0, PLUS + BLANK, "-0.0");
        subject.text(-0.0, 1, 1, 0, PLUS, "-0.0e+00");
        subject.text(-0.0, 1, 1, 0, BLANK, "-0.0e+00");
        subject.text(-0.0, 0, 0, 5, 8, "-0000");
        subject.text(0.0, 0, 0, 5, 8, "00000");
    }

    /** The sign is the double's, not that of the digits that are left. */
    private static void minusOfWhatRoundsToZero(Subject subject) {
        subject.sentence("\"-\" if the sign bit is 1, of what rounds to 0 too");
        subject.text(-0.4, 0, 0, 0, 0, "-0");
        subject.text(0.4, 0, 0, 0, 0, "0");
        subject.text(-0.5, 0, 0, 0, 0, "-0");
        subject.text(-0.001, 0, 2, 0, 0, "-0.00");
        subject.text(-0.001, 0, 2, 0, PLUS, "-0.00");
        subject.text(0.001, 0, 2, 0, PLUS, "+0.00");
        subject.text(-Double.MIN_VALUE, 0, 15, 0, 0, "-0.000000000000000");
        subject.text(Double.MIN_VALUE, 0, 15, 0, 0, "0.000000000000000");
    }

    private static void plusIfAskedFor(Subject subject) {
        subject.sentence("else \"+\" if that is asked for");
        subject.text(1.5, 0, 1, 0, PLUS, "+1.5");
        subject.text(1.5, 1, 1, 0, PLUS, "+1.5e+00");
        subject.text(1.5, 2, 1, 0, PLUS, "+1.5E+00");
        subject.text(0.0, 0, 1, 0, PLUS, "+0.0");
        subject.text(0.0, 1, 1, 0, PLUS, "+0.0e+00");
        subject.text(Double.MIN_VALUE, 0, 0, 0, PLUS, "+0");
    }

    private static void blankIfAskedFor(Subject subject) {
        subject.sentence("else a blank if that is asked for");
        subject.text(1.5, 0, 1, 0, BLANK, " 1.5");
        subject.text(1.5, 1, 1, 0, BLANK, " 1.5e+00");
        subject.text(1.5, 2, 1, 0, BLANK, " 1.5E+00");
        subject.text(0.0, 0, 1, 0, BLANK, " 0.0");
        subject.text(0.0, 1, 1, 0, BLANK, " 0.0e+00");
        subject.text(Double.MIN_VALUE, 0, 0, 0, BLANK, " 0");
    }

    private static void plusBeforeBlank(Subject subject) {
        subject.sentence("4 a blank as sign (not with 2)");
        subject.text(1.5, 0, 1, 0, BLANK, " 1.5");
        subject.text(1.5, 0, 1, 0, PLUS + BLANK, "+1.5");
        subject.text(1.5, 1, 1, 0, PLUS + BLANK, "+1.5e+00");
        subject.text(0.0, 0, 1, 0, PLUS + BLANK, "+0.0");
    }

    private static void elseNothing(Subject subject) {
        subject.sentence("else nothing");
        for (int flags : new int[] {0, 1, 8, 9, 16, 17, 24, 25}) {
            subject.text(1.5, 0, 1, 0, flags, "1.5");
            subject.text(-1.5, 0, 1, 0, flags, "-1.5");
            subject.text(0.0, 1, 1, 0, flags, "0.0e+00");
        }
    }
}
