/** Promise 2 with "Terms": what stands beside a text that is shorter than the width. */
public final class MakeWidthTest {
    private static final int BEHIND = 1;
    private static final int PLUS = 2;
    private static final int BLANK = 4;
    private static final int ZEROS = 8;

    public static void main(String[] args) {
        Subject subject = new Subject("MakeWidthTest");
        shorterOrNot(subject);
        theSignCounts(subject);
        blanksBefore(subject);
        blanksBehind(subject);
        zerosBetween(subject);
        zerosNotWithBlanksBehind(subject);
        theExponentCounts(subject);
        theWidestText(subject);
        theLongestText(subject);
        everyWidth(subject);
        subject.finish();
    }

    private static void shorterOrNot(Subject subject) {
        subject.sentence("If sign and body are shorter than the WIDTH");
        for (int flags : new int[] {0, BEHIND, ZEROS, BEHIND + ZEROS}) {
            subject.text(1.5, 0, 1, 0, flags, "1.5");
            subject.text(1.5, 0, 1, 1, flags, "1.5");
            subject.text(1.5, 0, 1, 2, flags, "1.5");
            subject.text(1.5, 0, 1, 3, flags, "1.5");
        }
        subject.text(1.5, 0, 1, 4, 0, " 1.5");
        subject.text(1.5, 0, 1, 4, BEHIND, "1.5 ");
        subject.text(1.5, 0, 1, 4, ZEROS, "01.5");
        subject.text(7.0, 0, 0, 0, 0, "7");
        subject.text(7.0, 0, 0, 1, 0, "7");
        subject.text(7.0, 0, 0, 2, 0, " 7");
    }

    private static void theSignCounts(Subject subject) {
        subject.sentence("sign and body are shorter than the WIDTH: the sign counts");
        for (int flags : new int[] {0, BEHIND, ZEROS}) {
            subject.text(1.5, 0, 1, 4, flags + PLUS, "+1.5");
            subject.text(1.5, 0, 1, 4, flags + BLANK, " 1.5");
            subject.text(-1.5, 0, 1, 4, flags, "-1.5");
        }
        subject.text(1.5, 0, 1, 5, PLUS, " +1.5");
        subject.text(1.5, 0, 1, 5, PLUS + BEHIND, "+1.5 ");
        subject.text(1.5, 0, 1, 5, PLUS + ZEROS, "+01.5");
        subject.text(1.5, 0, 1, 5, BLANK, "  1.5");
        subject.text(1.5, 0, 1, 5, BLANK + BEHIND, " 1.5 ");
        subject.text(1.5, 0, 1, 5, BLANK + ZEROS, " 01.5");
        subject.text(-1.5, 0, 1, 5, 0, " -1.5");
        subject.text(-1.5, 0, 1, 5, BEHIND, "-1.5 ");
        subject.text(-1.5, 0, 1, 5, ZEROS, "-01.5");
    }

    private static void blanksBefore(Subject subject) {
        subject.sentence("or blanks before them");
        subject.text(1.5, 0, 1, 8, 0, "     1.5");
        subject.text(1.5, 0, 1, 8, PLUS, "    +1.5");
        subject.text(1.5, 0, 1, 8, BLANK, "     1.5");
        subject.text(-1.5, 0, 1, 8, 0, "    -1.5");
        subject.text(-1.5, 1, 1, 12, 0, "    -1.5e+00");
        subject.text(0.0, 0, 0, 2, 0, " 0");
    }

    private static void blanksBehind(Subject subject) {
        subject.sentence("blanks stand behind them (to the left)");
        subject.text(1.5, 0, 1, 8, BEHIND, "1.5     ");
        subject.text(1.5, 0, 1, 8, BEHIND + PLUS, "+1.5    ");
        subject.text(1.5, 0, 1, 8, BEHIND + BLANK, " 1.5    ");
        subject.text(-1.5, 0, 1, 8, BEHIND, "-1.5    ");
        subject.text(-1.5, 1, 1, 12, BEHIND, "-1.5e+00    ");
        subject.text(0.0, 0, 0, 2, BEHIND, "0 ");
    }

    private static void zerosBetween(Subject subject) {
        subject.sentence("or zeros between sign and body");
        subject.text(1.5, 0, 1, 8, ZEROS, "000001.5");
        subject.text(1.5, 0, 1, 8, ZEROS + PLUS, "+00001.5");
        subject.text(1.5, 0, 1, 8, ZEROS + BLANK, " 00001.5");
        subject.text(-1.5, 0, 1, 8, ZEROS, "-00001.5");
        subject.text(-1.5, 1, 1, 12, ZEROS, "-00001.5e+00");
        subject.text(0.0, 0, 0, 2, ZEROS, "00");
        subject.text(-0.0, 0, 0, 3, ZEROS, "-00");
    }

    private static void zerosNotWithBlanksBehind(Subject subject) {
        subject.sentence("8 zeros (not with 1)");
        subject.text(1.5, 0, 1, 8, ZEROS, "000001.5");
        subject.text(1.5, 0, 1, 8, ZEROS + BEHIND, "1.5     ");
        subject.text(-1.5, 0, 1, 8, ZEROS + BEHIND, "-1.5    ");
        subject.text(1.5, 2, 1, 9, ZEROS + BEHIND + PLUS, "+1.5E+00 ");
    }

    private static void theExponentCounts(Subject subject) {
        subject.sentence("sign and body are shorter than the WIDTH: the exponent counts");
        subject.text(-250.0, 2, 1, 7, 0, "-2.5E+02");
        subject.text(-250.0, 2, 1, 8, 0, "-2.5E+02");
        subject.text(-250.0, 2, 1, 9, 0, " -2.5E+02");
        subject.text(-250.0, 2, 1, 8, BEHIND, "-2.5E+02");
        subject.text(-250.0, 2, 1, 9, BEHIND, "-2.5E+02 ");
        subject.text(-250.0, 2, 1, 8, ZEROS, "-2.5E+02");
        subject.text(-250.0, 2, 1, 9, ZEROS, "-02.5E+02");
        subject.text(2e99, 1, 0, 6, 0, " 2e+99");
        subject.text(2e100, 1, 0, 6, 0, "2e+100");
        subject.text(2e100, 1, 0, 7, 0, " 2e+100");
    }

    private static void theWidestText(Subject subject) {
        subject.sentence("width 400, the largest");
        subject.text(7.0, 0, 0, 399, 0, " ".repeat(398) + "7");
        subject.text(7.0, 0, 0, 400, 0, " ".repeat(399) + "7");
        subject.text(7.0, 0, 0, 400, BEHIND, "7" + " ".repeat(399));
        subject.text(7.0, 0, 0, 400, ZEROS, "0".repeat(399) + "7");
        subject.text(-7.0, 0, 0, 400, ZEROS, "-" + "0".repeat(398) + "7");
        subject.text(7.0, 0, 0, 400, 31, "+7." + " ".repeat(397));
        subject.text(7.0, 2, 15, 400, 30, "+" + "0".repeat(378) + "7.000000000000000E+00");
    }

    /** 326 characters are the most that a sign and a body have. */
    private static void theLongestText(Subject subject) {
        subject.sentence("shorter than the WIDTH or not: the longest sign and body");
        String body = new java.math.BigDecimal(Double.MAX_VALUE).toPlainString() + "." + "0".repeat(15);
        subject.text(-Double.MAX_VALUE, 0, 15, 0, 0, "-" + body);
        subject.text(-Double.MAX_VALUE, 0, 15, 325, 0, "-" + body);
        subject.text(-Double.MAX_VALUE, 0, 15, 326, 0, "-" + body);
        subject.text(-Double.MAX_VALUE, 0, 15, 326, ZEROS, "-" + body);
        subject.text(-Double.MAX_VALUE, 0, 15, 326, BEHIND, "-" + body);
        subject.text(-Double.MAX_VALUE, 0, 15, 327, 0, " -" + body);
        subject.text(-Double.MAX_VALUE, 0, 15, 327, ZEROS, "-0" + body);
        subject.text(-Double.MAX_VALUE, 0, 15, 327, BEHIND, "-" + body + " ");
        subject.text(-Double.MAX_VALUE, 0, 15, 400, 0, " ".repeat(74) + "-" + body);
        subject.text(-Double.MAX_VALUE, 0, 15, 400, ZEROS, "-" + "0".repeat(74) + body);
        subject.text(-Double.MAX_VALUE, 0, 15, 400, BEHIND, "-" + body + " ".repeat(74));
        subject.text(Double.MAX_VALUE, 0, 15, 326, PLUS, "+" + body);
        subject.text(Double.MAX_VALUE, 0, 15, 326, 0, " " + body);
    }

    private static void everyWidth(Subject subject) {
        subject.sentence("Its length: the width, or more if sign and body are longer");
        for (int width = 0; width <= 400; width++) {
            int missing = Math.max(width - 4, 0);
            subject.text(-2.5, 0, 1, width, 0, " ".repeat(missing) + "-2.5");
            subject.text(-2.5, 0, 1, width, BEHIND, "-2.5" + " ".repeat(missing));
            subject.text(-2.5, 0, 1, width, ZEROS, "-" + "0".repeat(missing) + "2.5");
        }
    }
}
