/** Promise 4: how many digits the exact worth has. */
public final class DigitsTest {
    public static void main(String[] args) {
        Subject subject = new Subject("DigitsTest");
        ordinary(subject);
        edges(subject);
        refused(subject);
        leavesTheText(subject);
        agreesWithTheOracle(subject);
        subject.finish();
    }

    private static void ordinary(Subject subject) {
        value(subject, 1.0, 1);
        value(subject, -1.0, 1);
        value(subject, 10.0, 1);
        value(subject, 1e22, 1);
        value(subject, 1200.0, 2);
        value(subject, 1002.0, 4);
        value(subject, 0.5, 1);
        value(subject, 0.25, 2);
        value(subject, 100.25, 5);
        value(subject, 0.001953125, 7);
        value(subject, 0.1, 55);
        value(subject, -0.1, 55);
        value(subject, 123456789.0, 9);
        value(subject, 1000000000.0, 1);
        value(subject, 9007199254740991.0, 16);
    }

    private static void edges(Subject subject) {
        value(subject, 0.0, 0);
        value(subject, -0.0, 0);
        value(subject, Double.MIN_VALUE, 751);
        value(subject, -Double.MIN_VALUE, 751);
        value(subject, Double.MIN_NORMAL, 715);
        subject.digits(0x000FFFFFFFFFFFFFL, 767);
        subject.digits(0x001FFFFFFFFFFFFFL, 767);
        subject.digits(0x801FFFFFFFFFFFFFL, 767);
        value(subject, Double.MAX_VALUE, 309);
        value(subject, -Double.MAX_VALUE, 309);
    }

    private static void refused(Subject subject) {
        subject.digits(0x7FF0000000000000L, -1);
        subject.digits(0xFFF0000000000000L, -1);
        subject.digits(0x7FF0000000000001L, -1);
        subject.digits(0x7FF8000000000000L, -1);
        subject.digits(0xFFF8000000000000L, -1);
        subject.digits(-1L, -1);
        subject.digits(Long.MAX_VALUE, -1);
    }

    private static void leavesTheText(Subject subject) {
        subject.renew();
        subject.make(Double.doubleToRawLongBits(2.75), 0, 2, 0, 0, 4);
        value(subject, Double.MIN_VALUE, 751);
        subject.holds("2.75");
        subject.digits(0x7FF8000000000000L, -1);
        value(subject, 0.0, 0);
        subject.holds("2.75");
    }

    private static void agreesWithTheOracle(Subject subject) {
        for (long bits : Doubles.EDGES) {
            subject.reserve(1);
            subject.digits(bits, Oracle.digits(bits));
        }
        for (int field = 0; field < 2048; field++) {
            subject.reserve(3);
            long low = (long) field << 52;
            subject.digits(low, Oracle.digits(low));
            subject.digits(low | 0xFFFFFFFFFFFFFL, Oracle.digits(low | 0xFFFFFFFFFFFFFL));
            subject.digits(low | 1L << field % 52, Oracle.digits(low | 1L << field % 52));
        }
        Doubles doubles = new Doubles(4L);
        for (int i = 0; i < 5000; i++) {
            long bits = doubles.next();
            subject.reserve(1);
            subject.digits(bits, Oracle.digits(bits));
        }
    }

    private static void value(Subject subject, double value, int want) {
        subject.reserve(1);
        subject.digits(Double.doubleToRawLongBits(value), want);
    }
}
