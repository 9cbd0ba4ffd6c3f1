/** Doubles to test with: a list of edges, and a sequence that is the same in every run. */
final class Doubles {
    static final long[] EDGES = {
        bits(0.0), bits(-0.0), bits(Double.MIN_VALUE), bits(-Double.MIN_VALUE), bits(Double.MIN_NORMAL),
        0x000FFFFFFFFFFFFFL, 0x001FFFFFFFFFFFFFL, bits(Double.MAX_VALUE), bits(-Double.MAX_VALUE),
        bits(Double.POSITIVE_INFINITY), bits(Double.NEGATIVE_INFINITY),
        bits(0.5), bits(1.5), bits(2.5), bits(3.5), bits(9.5), bits(99.5), bits(999999999.5), bits(-0.5),
        bits(0.05), bits(0.25), bits(0.75), bits(0.125), bits(0.375), bits(0.1), bits(0.3), bits(0.001),
        bits(Math.nextUp(0.5)), bits(Math.nextDown(0.5)), bits(Math.nextUp(2.5)), bits(Math.nextDown(2.5)),
        bits(Math.nextDown(1.0)), bits(Math.nextDown(10.0)), bits(Math.nextDown(1000.0)), bits(Math.nextDown(1e15)),
        bits(0.95), bits(0.995), bits(9.995), bits(9.99999999999999), bits(0.09999999999999999),
        bits(1.0), bits(2.0), bits(5.0), bits(9.0), bits(10.0), bits(15.0), bits(25.0), bits(35.0), bits(95.0),
        bits(250.0), bits(12345.0), bits(12355.0), bits(99995.0), bits(1e9), bits(999999999.0), bits(1e18),
        bits(1e22), bits(1e23), bits(1e99), bits(1e100), bits(9.9999e99), bits(1e-5), bits(1e-15), bits(5e-16),
        bits(4.9e-16), bits(5.1e-16), bits(1e-16), bits(1e-99), bits(1e-100), bits(9.9999e-100), bits(1e308), bits(1e-308),
        bits(9007199254740993.0), bits(4503599627370495.5), bits(4503599627370496.5), bits(Math.PI), bits(-Math.E),
    };

    private long state;

    Doubles(long seed) {
        state = seed * 0x9E3779B97F4A7C15L + 1;
    }

    /** The bits of a double that is a number: any, or near a tie, or a tie, or a short one. */
    long next() {
        long bits = candidate();
        return Double.isNaN(Double.longBitsToDouble(bits)) ? bits & 0xFFF0000000000000L : bits;
    }

    int below(int bound) {
        return (int) Long.remainderUnsigned(random(), bound);
    }

    private long candidate() {
        long number = random() >>> 11 + below(52);
        switch (below(6)) {
            case 0:
                return random();
            case 1:
                return bits((double) (number | 1) / (1L << 1 + below(20)));
            case 2:
                return bits((double) (number | 1) / (1L << 1 + below(20))) + below(3) - 1;
            case 3:
                return bits((double) (below(1000000) * 10L + 5) * Math.pow(10, below(12)));
            case 4:
                return bits(-(double) number / Math.pow(10, below(23)));
            default:
                return bits((double) (below(1000) + 1) * Math.pow(10, below(40) - 20));
        }
    }

    private long random() {
        state ^= state << 13;
        state ^= state >>> 7;
        state ^= state << 17;
        return state;
    }

    private static long bits(double value) {
        return Double.doubleToRawLongBits(value);
    }
}
