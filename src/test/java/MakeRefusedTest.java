/** Promise 2: what make refuses, and that the text stays then. */
public final class MakeRefusedTest {
    private static final String TEXT = "  -2.8";

    public static void main(String[] args) {
        Subject subject = new Subject("MakeRefusedTest");
        how(subject);
        p(subject);
        width(subject);
        flags(subject);
        noNumber(subject);
        severalAtOnce(subject);
        theTextStays(subject);
        theTextStaysThoughLong(subject);
        makeAfterARefusal(subject);
        subject.finish();
    }

    private static void how(Subject subject) {
        subject.sentence("-1 if how is not 0 .. 2");
        subject.text(250.0, 0, 0, 0, 0, "250");
        subject.text(250.0, 1, 0, 0, 0, "2e+02");
        subject.text(250.0, 2, 0, 0, 0, "2E+02");
        begin(subject);
        int[] wrong = {-1, 3, -2, 4, 31, 255, 256, 257, 65536, 65537, Integer.MIN_VALUE, Integer.MIN_VALUE + 1,
            Integer.MAX_VALUE};
        for (int how : wrong) {
            subject.make(250.0, how, 0, 0, 0, -1);
            subject.holds(TEXT);
        }
    }

    private static void p(Subject subject) {
        subject.sentence("-1 if p is not 0 .. 15");
        subject.text(2.5, 0, 0, 0, 0, "2");
        subject.text(2.5, 0, 1, 0, 0, "2.5");
        subject.text(2.5, 0, 14, 0, 0, "2.50000000000000");
        subject.text(2.5, 0, 15, 0, 0, "2.500000000000000");
        subject.text(2.5, 2, 15, 0, 0, "2.500000000000000E+00");
        begin(subject);
        int[] wrong = {-1, 16, -2, 17, -15, 255, 256, 271, 65536, 65551, Integer.MIN_VALUE, Integer.MIN_VALUE + 15,
            Integer.MAX_VALUE};
        for (int p : wrong) {
            for (int how = 0; how <= 2; how++) {
                subject.make(2.5, how, p, 0, 0, -1);
                subject.holds(TEXT);
            }
        }
    }

    private static void width(Subject subject) {
        subject.sentence("-1 if width is not 0 .. 400");
        subject.text(2.5, 0, 1, 0, 0, "2.5");
        subject.text(2.5, 0, 1, 1, 0, "2.5");
        subject.text(2.5, 0, 1, 399, 0, " ".repeat(396) + "2.5");
        subject.text(2.5, 0, 1, 400, 0, " ".repeat(397) + "2.5");
        begin(subject);
        int[] wrong = {-1, 401, -2, 402, -400, 511, 512, 65536, 65540, Integer.MIN_VALUE, Integer.MIN_VALUE + 4,
            Integer.MAX_VALUE};
        for (int width : wrong) {
            for (int flags : new int[] {0, 1, 8}) {
                subject.make(2.5, 0, 1, width, flags, -1);
                subject.holds(TEXT);
            }
        }
    }

    private static void flags(Subject subject) {
        subject.sentence("-1 if flags is not 0 .. 31");
        subject.text(2.5, 0, 0, 4, 0, "   2");
        subject.text(2.5, 0, 0, 4, 1, "2   ");
        subject.text(2.5, 0, 0, 4, 30, "+02.");
        subject.text(2.5, 0, 0, 4, 31, "+2. ");
        begin(subject);
        int[] wrong = {-1, 32, -2, 33, -31, 40, 63, 64, 128, 256, 65536, Integer.MIN_VALUE, Integer.MIN_VALUE + 8,
            Integer.MAX_VALUE};
        for (int flags : wrong) {
            subject.make(2.5, 0, 0, 4, flags, -1);
            subject.holds(TEXT);
        }
    }

    private static void noNumber(Subject subject) {
        subject.sentence("-1 if the bits are no number");
        subject.text(0x7FEFFFFFFFFFFFFFL, 1, 2, 0, 0, "1.80e+308");
        subject.text(0x7FF0000000000000L, 1, 2, 0, 0, "inf");
        subject.text(0xFFEFFFFFFFFFFFFFL, 1, 2, 0, 0, "-1.80e+308");
        subject.text(0xFFF0000000000000L, 1, 2, 0, 0, "-inf");
        long[] noNumbers = {0x7FF0000000000001L, 0x7FF0000080000000L, 0x7FF0000100000000L, 0x7FF7FFFFFFFFFFFFL,
            0x7FF8000000000000L, 0x7FFFFFFFFFFFFFFFL, 0xFFF0000000000001L, 0xFFF0000080000000L, 0xFFF0000100000000L,
            0xFFF8000000000000L, 0xFFFFFFFFFFFFFFFFL};
        begin(subject);
        for (long bits : noNumbers) {
            for (int how = 0; how <= 2; how++) {
                subject.make(bits, how, 2, 9, 2, -1);
                subject.holds(TEXT);
            }
        }
    }

    private static void severalAtOnce(Subject subject) {
        subject.sentence("-1 if one or the other: all of them too");
        begin(subject);
        subject.make(2.5, 3, 16, 401, 32, -1);
        subject.make(2.5, -1, -1, -1, -1, -1);
        subject.make(0x7FF8000000000000L, 3, 16, 401, 32, -1);
        subject.make(0xFFFFFFFFFFFFFFFFL, -1, -1, -1, -1, -1);
        subject.make(2.5, 3, -1, 0, 0, -1);
        subject.make(2.5, 0, 0, 401, -1, -1);
        subject.holds(TEXT);
    }

    private static void theTextStays(Subject subject) {
        subject.sentence("-1, and the text stays");
        begin(subject);
        subject.make(77.0, 3, 2, 9, 2, -1);
        subject.holds(TEXT);
        subject.make(77.0, 0, 16, 9, 2, -1);
        subject.holds(TEXT);
        subject.make(77.0, 0, 2, 401, 2, -1);
        subject.holds(TEXT);
        subject.make(77.0, 0, 2, 9, 32, -1);
        subject.holds(TEXT);
        subject.make(0x7FF8000000000000L, 0, 2, 9, 2, -1);
        subject.holds(TEXT);
        subject.text(77.0, 0, 2, 9, 2, "   +77.00");
    }

    private static void theTextStaysThoughLong(Subject subject) {
        subject.sentence("-1, and the text stays, of 400 characters and of 1");
        String longest = " ".repeat(399) + "7";
        subject.make(7.0, 0, 0, 400, 0, 400);
        subject.make(-8.0, 0, 0, 401, 0, -1);
        subject.holds(longest);
        subject.renew();
        subject.make(7.0, 0, 0, 1, 0, 1);
        subject.make(-8.0, 0, 16, 0, 0, -1);
        subject.make(0x7FF0000000000001L, 0, 0, 0, 0, -1);
        subject.holds("7");
    }

    private static void makeAfterARefusal(Subject subject) {
        subject.sentence("a refused call leaves no trace in the next text");
        subject.make(123456.0, 0, 16, 0, 0, -1);
        subject.text(9.5, 0, 0, 0, 0, "10");
        subject.make(0xFFF8000000000000L, 1, 3, 20, 10, -1);
        subject.text(0.25, 1, 1, 0, 0, "2.5e-01");
        subject.make(2.5, 2, 3, 400, -1, -1);
        subject.text(0.0, 0, 0, 3, 0, "  0");
    }

    private static void begin(Subject subject) {
        subject.renew();
        subject.make(-2.75, 0, 1, 6, 0, 6);
        subject.holds(TEXT);
    }
}
