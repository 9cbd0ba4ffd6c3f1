/** Promise 2 against the oracle: all forms of the edges, and long mixed sequences on one object. */
public final class MakeOracleTest {
    private static final int[] WIDTHS = {0, 1, 4, 7, 12, 25, 330, 400};

    public static void main(String[] args) {
        Subject subject = new Subject("MakeOracleTest");
        everyPrecisionOfTheEdges(subject);
        everyFlagAndWidth(subject);
        everyPowerOfTwo(subject);
        everyTie(subject);
        mixed(subject);
        subject.finish();
    }

    private static void everyPrecisionOfTheEdges(Subject subject) {
        for (long bits : Doubles.EDGES) {
            for (int how = 0; how <= 2; how++) {
                for (int p = 0; p <= 15; p++) {
                    check(subject, bits, how, p, 0, 0);
                    check(subject, bits, how, p, p + 8, 8);
                }
            }
        }
    }

    private static void everyFlagAndWidth(Subject subject) {
        double[] values = {0.0, -0.0, 9.96, -9.96, 1e-7, -123456.5, 1e300,
            Double.POSITIVE_INFINITY, Double.NEGATIVE_INFINITY};
        for (double value : values) {
            for (int flags = 0; flags <= 31; flags++) {
                for (int width : WIDTHS) {
                    for (int how = 0; how <= 2; how++) {
                        check(subject, Double.doubleToRawLongBits(value), how, 0, width, flags);
                        check(subject, Double.doubleToRawLongBits(value), how, 1, width, flags);
                    }
                }
            }
        }
    }

    private static void everyPowerOfTwo(Subject subject) {
        for (int field = 0; field < 2047; field++) {
            long bits = (long) field << 52;
            check(subject, bits, 0, field % 16, 0, 0);
            check(subject, bits, 1, field % 16, 0, 0);
            check(subject, bits | 0xFFFFFFFFFFFFFL, 0, field % 16, 0, 0);
            check(subject, bits | 0xFFFFFFFFFFFFFL, 2, field % 16, 0, 0);
        }
    }

    /** An odd number of 2^-(p + 1) ends with a 5 just behind its p decimals. */
    private static void everyTie(Subject subject) {
        for (int p = 0; p <= 15; p++) {
            for (int odd = 1; odd < 1200; odd += 2) {
                double tie = (double) odd / (1L << p + 1);
                check(subject, Double.doubleToRawLongBits(tie), 0, p, 0, 0);
                check(subject, Double.doubleToRawLongBits(Math.nextUp(tie)), 0, p, 0, 0);
                check(subject, Double.doubleToRawLongBits(Math.nextDown(tie)), 0, p, 0, 0);
            }
        }
        for (long whole = 5; whole < 20000; whole += 10) {
            for (int p = 0; p <= 3; p++) {
                check(subject, Double.doubleToRawLongBits((double) whole), 1, p, 0, 0);
                check(subject, Double.doubleToRawLongBits(whole * 1e10), 2, p, 0, 0);
            }
        }
    }

    /** Long and short numbers in turn, so that one that leaves something behind spoils the next. */
    private static void mixed(Subject subject) {
        Doubles doubles = new Doubles(2L);
        for (int i = 0; i < 60000; i++) {
            long bits = doubles.next();
            int how = doubles.below(3);
            int width = doubles.below(4) == 0 ? doubles.below(401) : doubles.below(30);
            check(subject, bits, how, doubles.below(16), width, doubles.below(32));
            if (i % 7 == 0) {
                long other = doubles.next();
                subject.reserve(1);
                subject.digits(other, Oracle.digits(other));
            }
        }
    }

    private static void check(Subject subject, long bits, int how, int p, int width, int flags) {
        subject.text(bits, how, p, width, flags, Oracle.text(bits, how, p, width, flags));
    }
}
