/** The section "What it is": an object is used for at most 512 calls, so the 512th must still be answered. */
public final class CallLimitTest {
    private static final int MOST_CALLS = 512;

    public static void main(String[] args) {
        Subject subject = new Subject("CallLimitTest");
        onlyMake(subject);
        onlyAt(subject);
        onlyDigits(subject);
        onlyRefused(subject);
        allInTurn(subject);
        subject.finish();
    }

    private static void onlyMake(Subject subject) {
        subject.sentence("at most 512 calls: make");
        for (int call = 1; call < MOST_CALLS; call++) {
            subject.make(-Double.MAX_VALUE, 0, 15, 400, call % 32, 400);
        }
        subject.make(1.5, 0, 1, 0, 0, 3);
    }

    private static void onlyAt(Subject subject) {
        subject.sentence("at most 512 calls: at");
        subject.make(-Double.MAX_VALUE, 0, 15, 400, 1, 400);
        for (int call = 2; call < MOST_CALLS; call++) {
            subject.at(call, call < 326 ? digitOfTheLongest(call) : call < 400 ? ' ' : -1);
        }
        subject.at(0, '-');
    }

    private static int digitOfTheLongest(int index) {
        String digits = new java.math.BigDecimal(-Double.MAX_VALUE).setScale(15).toPlainString();
        return digits.charAt(index);
    }

    private static void onlyDigits(Subject subject) {
        subject.sentence("at most 512 calls: digits");
        for (int call = 1; call < MOST_CALLS; call++) {
            subject.digits(0x001FFFFFFFFFFFFFL, 767);
        }
        subject.digits(1200.0, 2);
    }

    private static void onlyRefused(Subject subject) {
        subject.sentence("at most 512 calls: refused ones");
        subject.make(2.5, 0, 1, 0, 0, 3);
        for (int call = 2; call < MOST_CALLS; call++) {
            subject.make(2.5, 0, 16, 0, 0, -1);
        }
        subject.at(2, '5');
    }

    private static void allInTurn(Subject subject) {
        subject.sentence("at most 512 calls: all of them in turn");
        for (int call = 0; call < MOST_CALLS; call += 4) {
            int width = call % 401;
            subject.make(7.0, 0, 0, width, 0, Math.max(width, 1));
            subject.at(Math.max(width, 1) - 1, '7');
            subject.digits(Double.MIN_VALUE, 751);
            subject.at(Math.max(width, 1), -1);
        }
    }
}
