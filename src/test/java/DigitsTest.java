/** Promise 4: how many digits the exact worth has. */
public final class DigitsTest {
    public static void main(String[] args) {
        Subject subject = new Subject("DigitsTest");
        ordinary(subject);
        firstAndLastDigit(subject);
        zero(subject);
        infinite(subject);
        noNumber(subject);
        fewest(subject);
        most(subject);
        smallestAndLargest(subject);
        theSignDoesNotCount(subject);
        leavesTheText(subject);
        leavesNothingBehind(subject);
        agreesWithTheOracle(subject);
        subject.finish();
    }

    private static void ordinary(Subject subject) {
        subject.sentence("How many digits the exact worth of a double has");
        subject.digits(12.0, 2);
        subject.digits(0.25, 2);
        subject.digits(100.25, 5);
        subject.digits(0.001953125, 7);
        subject.digits(0.1, 55);
        subject.digits(123456789.0, 9);
        subject.digits(9007199254740991.0, 16);
    }

    private static void firstAndLastDigit(Subject subject) {
        subject.sentence("from the first that is not 0 to the last that is not 0");
        subject.digits(1000.0, 1);
        subject.digits(1001.0, 4);
        subject.digits(1010.0, 3);
        subject.digits(0.5, 1);
        subject.digits(10.5, 3);
        subject.digits(0.0625, 3);
        subject.digits(0.03125, 4);
        subject.digits(999999999.0, 9);
        subject.digits(1000000000.0, 1);
        subject.digits(1000000001.0, 10);
        subject.digits(1000000000000000.0, 1);
        subject.digits(1000000000000001.0, 16);
        subject.digits(1000000000000000000.0, 1);
    }

    private static void zero(Subject subject) {
        subject.sentence("0 for 0");
        subject.digits(0x0000000000000000L, 0);
        subject.digits(0x8000000000000000L, 0);
        subject.digits(0x0000000000000001L, 751);
        subject.digits(0x8000000000000001L, 751);
    }

    private static void infinite(Subject subject) {
        subject.sentence("-1 if it is infinite");
        subject.digits(0x7FEFFFFFFFFFFFFFL, 309);
        subject.digits(0x7FF0000000000000L, -1);
        subject.digits(0xFFEFFFFFFFFFFFFFL, 309);
        subject.digits(0xFFF0000000000000L, -1);
    }

    private static void noNumber(Subject subject) {
        subject.sentence("-1 if it is no number");
        subject.digits(0x7FF0000000000001L, -1);
        subject.digits(0x7FF7FFFFFFFFFFFFL, -1);
        subject.digits(0x7FF8000000000000L, -1);
        subject.digits(0x7FFFFFFFFFFFFFFFL, -1);
        subject.digits(0xFFF0000000000001L, -1);
        subject.digits(0xFFF8000000000000L, -1);
        subject.digits(0xFFFFFFFFFFFFFFFFL, -1);
    }

    /** 1e22 is the largest power of 10 that a double holds exactly. */
    private static void fewest(Subject subject) {
        subject.sentence("How many digits: the fewest, 1");
        subject.digits(1.0, 1);
        subject.digits(9.0, 1);
        subject.digits(10.0, 1);
        subject.digits(11.0, 2);
        subject.digits(8.0, 1);
        subject.digits(16.0, 2);
        subject.digits(0.5, 1);
        subject.digits(0.25, 2);
        subject.digits(1e22, 1);
        subject.digits(Math.nextUp(1e22), 23);
        subject.digits(Math.nextDown(1e22), 22);
        subject.digits(1e23, 23);
    }

    /** w * 5^1074 has 767 digits from w = 0x730D67819E8D3 on, and w below 2^53 never makes it more. */
    private static void most(Subject subject) {
        subject.sentence("How many digits: the most, 767");
        subject.digits(0x000730D67819E8D1L, 766);
        subject.digits(0x000730D67819E8D3L, 767);
        subject.digits(0x000FFFFFFFFFFFFFL, 767);
        subject.digits(0x0010000000000000L, 715);
        subject.digits(0x0010000000000001L, 767);
        subject.digits(0x001FFFFFFFFFFFFFL, 767);
        subject.digits(0x801FFFFFFFFFFFFFL, 767);
        subject.digits(0x0020000000000000L, 714);
        subject.digits(0x0020000000000001L, 766);
        subject.digits(0x002FFFFFFFFFFFFFL, 766);
    }

    private static void smallestAndLargest(Subject subject) {
        subject.sentence("How many digits: of the smallest and the largest");
        subject.digits(Double.MIN_VALUE, 751);
        subject.digits(2 * Double.MIN_VALUE, 750);
        subject.digits(3 * Double.MIN_VALUE, 752);
        subject.digits(Double.MIN_NORMAL, 715);
        subject.digits(Double.MAX_VALUE, 309);
        subject.digits(Math.nextDown(Double.MAX_VALUE), 308);
        subject.digits(0x1.0p1023, 308);
    }

    private static void theSignDoesNotCount(Subject subject) {
        subject.sentence("digits, and a sign is none");
        subject.digits(-1.0, 1);
        subject.digits(-0.1, 55);
        subject.digits(-Double.MIN_VALUE, 751);
        subject.digits(-Double.MAX_VALUE, 309);
    }

    private static void leavesTheText(Subject subject) {
        subject.sentence("digits answers and leaves the text");
        subject.make(2.75, 0, 2, 0, 0, 4);
        subject.digits(Double.MIN_VALUE, 751);
        subject.holds("2.75");
        subject.digits(0x7FF8000000000000L, -1);
        subject.holds("2.75");
        subject.digits(Double.POSITIVE_INFINITY, -1);
        subject.holds("2.75");
        subject.digits(0.0, 0);
        subject.holds("2.75");
    }

    private static void leavesNothingBehind(Subject subject) {
        subject.sentence("digits counts one double alone");
        subject.digits(0x001FFFFFFFFFFFFFL, 767);
        subject.digits(1.0, 1);
        subject.digits(0x001FFFFFFFFFFFFFL, 767);
        subject.digits(0.0, 0);
        subject.make(9.9999, 1, 0, 0, 0, 5);
        subject.digits(9.0, 1);
        subject.make(99.5, 0, 0, 0, 0, 3);
        subject.digits(99.5, 3);
    }

    private static void agreesWithTheOracle(Subject subject) {
        subject.sentence("digits, against BigDecimal");
        for (long bits : Doubles.EDGES) {
            agrees(subject, bits);
        }
        for (int field = 0; field < 2048; field++) {
            long low = (long) field << 52;
            agrees(subject, low);
            agrees(subject, low | 0xFFFFFFFFFFFFFL);
            agrees(subject, low | 1L << field % 52);
        }
        Doubles doubles = new Doubles(4L);
        for (int i = 0; i < 5000; i++) {
            agrees(subject, doubles.next());
        }
    }

    private static void agrees(Subject subject, long bits) {
        subject.reserve(1);
        subject.digits(bits, Oracle.digits(bits));
    }
}
