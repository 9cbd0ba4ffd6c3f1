/** Promise 2 with "Terms": the worth is rounded once, to the nearest, ties to the even digit. */
public final class MakeRoundingTest {
    public static void main(String[] args) {
        Subject subject = new Subject("MakeRoundingTest");
        toTheNearest(subject);
        toTheNearestByEveryDigit(subject);
        tiesOfEveryLastDigit(subject);
        besideATie(subject);
        aboveATieByADigitFurtherOn(subject);
        tiesWithDecimals(subject);
        tiesAtFifteenDecimals(subject);
        tiesThatCarry(subject);
        tiesWithAnExponent(subject);
        tiesWithAnExponentAtFifteenDecimals(subject);
        roundedOnce(subject);
        exactWorth(subject);
        withoutTheSign(subject);
        nothingToRound(subject);
        belowTheLastDecimal(subject);
        subject.finish();
    }

    private static void toTheNearest(Subject subject) {
        subject.sentence("rounded to p decimals, to the nearest");
        subject.text(1.25, 0, 0, 0, 0, "1");
        subject.text(1.75, 0, 0, 0, 0, "2");
        subject.text(2.375, 0, 1, 0, 0, "2.4");
        subject.text(2.3125, 0, 1, 0, 0, "2.3");
        subject.text(2.3125, 0, 2, 0, 0, "2.31");
        subject.text(1234.5678, 0, 2, 0, 0, "1234.57");
        subject.text(1234.5678, 0, 3, 0, 0, "1234.568");
        subject.text(1234.5612, 0, 3, 0, 0, "1234.561");
        subject.text(1234.5612, 1, 5, 0, 0, "1.23456e+03");
        subject.text(1234.5678, 1, 5, 0, 0, "1.23457e+03");
    }

    private static void toTheNearestByEveryDigit(Subject subject) {
        subject.sentence("to the nearest, by the first digit that is dropped");
        for (int dropped = 0; dropped <= 9; dropped++) {
            subject.text(20.0 + dropped, 1, 0, 0, 0, dropped <= 5 ? "2e+01" : "3e+01");
            subject.text(30.0 + dropped, 1, 0, 0, 0, dropped < 5 ? "3e+01" : "4e+01");
            // A sixteenth more makes no tie of any of them.
            subject.text(20.0625 + dropped, 1, 0, 0, 0, dropped < 5 ? "2e+01" : "3e+01");
            subject.text(30.0625 + dropped, 1, 0, 0, 0, dropped < 5 ? "3e+01" : "4e+01");
        }
    }

    private static void tiesOfEveryLastDigit(Subject subject) {
        subject.sentence("of two as near the one whose last digit is even");
        subject.text(0.5, 0, 0, 0, 0, "0");
        subject.text(1.5, 0, 0, 0, 0, "2");
        subject.text(2.5, 0, 0, 0, 0, "2");
        subject.text(3.5, 0, 0, 0, 0, "4");
        subject.text(4.5, 0, 0, 0, 0, "4");
        subject.text(5.5, 0, 0, 0, 0, "6");
        subject.text(6.5, 0, 0, 0, 0, "6");
        subject.text(7.5, 0, 0, 0, 0, "8");
        subject.text(8.5, 0, 0, 0, 0, "8");
        subject.text(9.5, 0, 0, 0, 0, "10");
        subject.text(10.5, 0, 0, 0, 0, "10");
        subject.text(11.5, 0, 0, 0, 0, "12");
        // The largest doubles that have a half.
        subject.text(4503599627370494.5, 0, 0, 0, 0, "4503599627370494");
        subject.text(4503599627370495.5, 0, 0, 0, 0, "4503599627370496");
    }

    private static void besideATie(Subject subject) {
        subject.sentence("to the nearest, the next double on either side of a tie");
        for (int whole = 0; whole < 12; whole++) {
            double tie = whole + 0.5;
            subject.text(Math.nextDown(tie), 0, 0, 0, 0, Integer.toString(whole));
            subject.text(Math.nextUp(tie), 0, 0, 0, 0, Integer.toString(whole + 1));
        }
        subject.text(Math.nextDown(25.0), 1, 0, 0, 0, "2e+01");
        subject.text(Math.nextUp(25.0), 1, 0, 0, 0, "3e+01");
        subject.text(Math.nextDown(35.0), 1, 0, 0, 0, "3e+01");
        subject.text(Math.nextUp(35.0), 1, 0, 0, 0, "4e+01");
    }

    private static void aboveATieByADigitFurtherOn(Subject subject) {
        subject.sentence("of two as near: not if any digit further on is not 0");
        subject.text(250.0, 1, 0, 0, 0, "2e+02");
        subject.text(251.0, 1, 0, 0, 0, "3e+02");
        subject.text(2501.0, 1, 0, 0, 0, "3e+03");
        subject.text(250000001.0, 1, 0, 0, 0, "3e+08");
        subject.text(2500000001.0, 1, 0, 0, 0, "3e+09");
        subject.text(2500000000000000.0, 1, 0, 0, 0, "2e+15");
        subject.text(2500000000000001.0, 1, 0, 0, 0, "3e+15");
        subject.text(2.5, 0, 0, 0, 0, "2");
        subject.text(2.53125, 0, 0, 0, 0, "3");
        subject.text(2.501953125, 0, 0, 0, 0, "3");
        subject.text(2.500000000931322574615478515625, 0, 0, 0, 0, "3");
        subject.text(0.25390625, 0, 1, 0, 0, "0.3");
        subject.text(0.1256103515625, 0, 2, 0, 0, "0.13");
        subject.text(0.5 + 0x1.0p-53, 0, 0, 0, 0, "1");
    }

    private static void tiesWithDecimals(Subject subject) {
        subject.sentence("of two as near the even one, with decimals");
        subject.text(0.25, 0, 1, 0, 0, "0.2");
        subject.text(0.75, 0, 1, 0, 0, "0.8");
        subject.text(0.125, 0, 2, 0, 0, "0.12");
        subject.text(0.375, 0, 2, 0, 0, "0.38");
        subject.text(0.625, 0, 2, 0, 0, "0.62");
        subject.text(0.875, 0, 2, 0, 0, "0.88");
        subject.text(0.0625, 0, 3, 0, 0, "0.062");
        subject.text(0.1875, 0, 3, 0, 0, "0.188");
        subject.text(Math.nextDown(0.125), 0, 2, 0, 0, "0.12");
        subject.text(Math.nextUp(0.125), 0, 2, 0, 0, "0.13");
        subject.text(Math.nextDown(0.375), 0, 2, 0, 0, "0.37");
        subject.text(Math.nextUp(0.375), 0, 2, 0, 0, "0.38");
    }

    /** 1 / 65536 is 0.0000152587890625: its last digit is the sixteenth decimal. */
    private static void tiesAtFifteenDecimals(Subject subject) {
        subject.sentence("of two as near the even one, at the most decimals");
        double even = 1.0 / 65536;
        double odd = 3.0 / 65536;
        subject.text(even, 0, 15, 0, 0, "0.000015258789062");
        subject.text(Math.nextDown(even), 0, 15, 0, 0, "0.000015258789062");
        subject.text(Math.nextUp(even), 0, 15, 0, 0, "0.000015258789063");
        subject.text(odd, 0, 15, 0, 0, "0.000045776367188");
        subject.text(Math.nextDown(odd), 0, 15, 0, 0, "0.000045776367187");
        subject.text(Math.nextUp(odd), 0, 15, 0, 0, "0.000045776367188");
    }

    private static void tiesThatCarry(Subject subject) {
        subject.sentence("of two as near the even one, where that carries");
        subject.text(98.5, 0, 0, 0, 0, "98");
        subject.text(99.5, 0, 0, 0, 0, "100");
        subject.text(Math.nextDown(99.5), 0, 0, 0, 0, "99");
        subject.text(0.96875, 0, 4, 0, 0, "0.9688");
        subject.text(9.75, 0, 1, 0, 0, "9.8");
        subject.text(109.5, 0, 0, 0, 0, "110");
        subject.text(999999998.5, 0, 0, 0, 0, "999999998");
        subject.text(999999999.5, 0, 0, 0, 0, "1000000000");
        subject.text(999999999999.5, 0, 0, 0, 0, "1000000000000");
    }

    private static void tiesWithAnExponent(Subject subject) {
        subject.sentence("rounded so to these p + 1 digits");
        subject.text(0.5, 1, 0, 0, 0, "5e-01");
        subject.text(1.5, 1, 0, 0, 0, "2e+00");
        subject.text(2.5, 1, 0, 0, 0, "2e+00");
        subject.text(25.0, 1, 0, 0, 0, "2e+01");
        subject.text(35.0, 1, 0, 0, 0, "4e+01");
        subject.text(85.0, 1, 0, 0, 0, "8e+01");
        subject.text(95.0, 1, 0, 0, 0, "1e+02");
        subject.text(125.0, 1, 0, 0, 0, "1e+02");
        subject.text(125.0, 1, 1, 0, 0, "1.2e+02");
        subject.text(135.0, 1, 1, 0, 0, "1.4e+02");
        subject.text(985.0, 1, 1, 0, 0, "9.8e+02");
        subject.text(995.0, 1, 1, 0, 0, "1.0e+03");
        subject.text(12345.0, 1, 3, 0, 0, "1.234e+04");
        subject.text(12345.0, 1, 4, 0, 0, "1.2345e+04");
        subject.text(12355.0, 1, 3, 0, 0, "1.236e+04");
        subject.text(0.00390625, 1, 4, 0, 0, "3.9062e-03");
        subject.text(0.01171875, 1, 5, 0, 0, "1.17188e-02");
        subject.text(25e20, 1, 0, 0, 0, "2e+21");
        subject.text(35e20, 1, 0, 0, 0, "4e+21");
        subject.text(Math.nextUp(25e20), 1, 0, 0, 0, "3e+21");
        subject.text(Math.nextDown(35e20), 1, 0, 0, 0, "3e+21");
    }

    private static void tiesWithAnExponentAtFifteenDecimals(Subject subject) {
        subject.sentence("rounded so to these p + 1 digits, at the most decimals");
        double even = 65537.0 / 65536;
        double odd = 65539.0 / 65536;
        subject.text(even, 1, 15, 0, 0, "1.000015258789062e+00");
        subject.text(Math.nextDown(even), 1, 15, 0, 0, "1.000015258789062e+00");
        subject.text(Math.nextUp(even), 1, 15, 0, 0, "1.000015258789063e+00");
        subject.text(odd, 1, 15, 0, 0, "1.000045776367188e+00");
        subject.text(Math.nextDown(odd), 1, 15, 0, 0, "1.000045776367187e+00");
        subject.text(Math.nextUp(odd), 1, 15, 0, 0, "1.000045776367188e+00");
    }

    /** Rounding these in two steps, or from the shortest decimal that names them, goes the other way. */
    private static void roundedOnce(Subject subject) {
        subject.sentence("rounded once");
        subject.text(1.45, 0, 0, 0, 0, "1");
        subject.text(1.45, 0, 1, 0, 0, "1.4");
        subject.text(0.49999999999999994, 0, 0, 0, 0, "0");
        subject.text(2.4999999999999996, 0, 0, 0, 0, "2");
        subject.text(2.5000000000000004, 0, 0, 0, 0, "3");
        subject.text(1.005, 0, 2, 0, 0, "1.00");
        subject.text(0.145, 0, 2, 0, 0, "0.14");
        subject.text(0.145, 0, 1, 0, 0, "0.1");
        subject.text(0.15, 0, 1, 0, 0, "0.1");
        subject.text(0.35, 0, 1, 0, 0, "0.3");
        subject.text(0.45, 0, 1, 0, 0, "0.5");
        subject.text(9.995, 0, 2, 0, 0, "9.99");
        subject.text(1e23, 1, 0, 0, 0, "1e+23");
        subject.text(1e23, 1, 15, 0, 0, "9.999999999999999e+22");
        subject.text(144.5, 1, 0, 0, 0, "1e+02");
        subject.text(2.4499999999999997, 1, 1, 0, 0, "2.4e+00");
    }

    private static void exactWorth(Subject subject) {
        subject.sentence("Its WORTH is exact");
        subject.text(0x000FFFFFFFFFFFFFL, 1, 15, 0, 0, "2.225073858507201e-308");
        subject.text(0x0010000000000000L, 1, 15, 0, 0, "2.225073858507201e-308");
        subject.text(0x0010000000000001L, 1, 15, 0, 0, "2.225073858507202e-308");
        subject.text(Double.MIN_VALUE, 1, 15, 0, 0, "4.940656458412465e-324");
        subject.text(2 * Double.MIN_VALUE, 1, 15, 0, 0, "9.881312916824931e-324");
        subject.text(9007199254740991.0, 0, 0, 0, 0, "9007199254740991");
        subject.text(9007199254740992.0, 0, 0, 0, 0, "9007199254740992");
        subject.text(9007199254740994.0, 0, 0, 0, 0, "9007199254740994");
        subject.text(1e22, 0, 0, 0, 0, "10000000000000000000000");
        subject.text(1e23, 0, 0, 0, 0, "99999999999999991611392");
        subject.text(0x1.0p64, 0, 0, 0, 0, "18446744073709551616");
        subject.text(0.1, 0, 15, 0, 0, "0.100000000000000");
        subject.text(100.1, 0, 15, 0, 0, "100.099999999999994");
    }

    private static void withoutTheSign(Subject subject) {
        subject.sentence("the worth without sign, rounded");
        subject.text(-0.5, 0, 0, 0, 0, "-0");
        subject.text(-1.5, 0, 0, 0, 0, "-2");
        subject.text(-2.5, 0, 0, 0, 0, "-2");
        subject.text(-2.75, 0, 0, 0, 0, "-3");
        subject.text(-2.25, 0, 0, 0, 0, "-2");
        subject.text(-35.0, 1, 0, 0, 0, "-4e+01");
        subject.text(-25.0, 1, 0, 0, 0, "-2e+01");
    }

    private static void nothingToRound(Subject subject) {
        subject.sentence("p decimals, though the worth has fewer");
        subject.text(2.5, 0, 1, 0, 0, "2.5");
        subject.text(2.5, 0, 2, 0, 0, "2.50");
        subject.text(2.5, 0, 15, 0, 0, "2.500000000000000");
        subject.text(25.0, 1, 1, 0, 0, "2.5e+01");
        subject.text(25.0, 1, 2, 0, 0, "2.50e+01");
        subject.text(25.0, 1, 15, 0, 0, "2.500000000000000e+01");
        subject.text(500.0, 0, 3, 0, 0, "500.000");
        subject.text(500.0, 1, 3, 0, 0, "5.000e+02");
    }

    private static void belowTheLastDecimal(Subject subject) {
        subject.sentence("rounded to p decimals, of a worth that begins below them");
        subject.text(0.4, 0, 0, 0, 0, "0");
        subject.text(0.6, 0, 0, 0, 0, "1");
        subject.text(0.06, 0, 0, 0, 0, "0");
        subject.text(0.09, 0, 0, 0, 0, "0");
        subject.text(0.09, 0, 1, 0, 0, "0.1");
        subject.text(0.04, 0, 1, 0, 0, "0.0");
        subject.text(4e-16, 0, 15, 0, 0, "0.000000000000000");
        subject.text(6e-16, 0, 15, 0, 0, "0.000000000000001");
        subject.text(9e-17, 0, 15, 0, 0, "0.000000000000000");
        subject.text(9e-300, 0, 15, 0, 0, "0.000000000000000");
        subject.text(9e-300, 0, 0, 0, 0, "0");
        subject.text(Double.MIN_VALUE, 0, 0, 0, 0, "0");
        subject.text(Double.MIN_VALUE, 0, 15, 0, 0, "0.000000000000000");
    }
}
