import java.util.Locale;

/**
 * An object under test that compares each answer with the one that is due.
 * It takes a new object before the document's limit of 512 calls, beyond which nothing is promised.
 */
final class Subject {
    private static final int MOST_CALLS = 512;
    private static final int MOST_SHOWN = 50;
    private static final long MOST_MILLISECONDS = 300_000;

    private final String test;
    private String sentence = "";
    private DecimalText object = new DecimalText();
    private int calls = 0;
    private long checks = 0;
    private long wrong = 0;

    Subject(String test) {
        this.test = test;
        Thread watch = new Thread(this::failIfItNeverEnds);
        watch.setDaemon(true);
        watch.start();
    }

    /** Names the words of the document that the checks from here on are about; they begin on a new object. */
    void sentence(String words) {
        sentence = words;
        renew();
    }

    void renew() {
        object = new DecimalText();
        calls = 0;
    }

    /** Makes sure that so many calls more are within the limit. */
    void reserve(int needed) {
        if (calls + needed > MOST_CALLS) {
            renew();
        }
    }

    void make(long bits, int how, int p, int width, int flags, int want) {
        countCall();
        int got = object.make(bits, how, p, width, flags);
        due(String.format(Locale.ROOT, "make(%dL, %d, %d, %d, %d)", bits, how, p, width, flags), got, want);
    }

    void at(int i, int want) {
        countCall();
        due("at(" + i + ")", object.at(i), want);
    }

    void make(double value, int how, int p, int width, int flags, int want) {
        make(Double.doubleToRawLongBits(value), how, p, width, flags, want);
    }

    void digits(double value, int want) {
        digits(Double.doubleToRawLongBits(value), want);
    }

    void digits(long bits, int want) {
        countCall();
        due("digits(" + bits + "L)", object.digits(bits), want);
    }

    /** The text that stands must be this one, to its last character and not further. */
    void holds(String want) {
        StringBuilder got = new StringBuilder();
        for (int i = 0; i < want.length(); i++) {
            countCall();
            int code = object.at(i);
            got.append(code < 0 ? '?' : (char) code);
        }
        same("the text", got.toString(), want);
        at(want.length(), -1);
        at(-1, -1);
    }

    /** Makes a text and reads it whole. */
    void text(long bits, int how, int p, int width, int flags, String want) {
        reserve(want.length() + 3);
        long before = wrong;
        make(bits, how, p, width, flags, want.length());
        holds(want);
        if (wrong > before) {
            tell("  that was make(" + bits + "L, " + how + ", " + p + ", " + width + ", " + flags + ")");
        }
    }

    void text(double value, int how, int p, int width, int flags, String want) {
        text(Double.doubleToRawLongBits(value), how, p, width, flags, want);
    }

    void same(String what, Object got, Object want) {
        checks++;
        if (!got.equals(want)) {
            tell(what + ": <" + got + ">, due is <" + want + ">");
        }
    }

    void finish() {
        System.out.println(test + ": " + checks + " checks, " + (wrong == 0 ? "all as due" : wrong + " wrong"));
        if (wrong != 0) {
            System.exit(1);
        }
    }

    private void countCall() {
        calls++;
        if (calls > MOST_CALLS) {
            throw new IllegalStateException("the test makes more than " + MOST_CALLS + " calls on one object");
        }
    }

    /** A call that never ends must fail the test, not hold it up. */
    private void failIfItNeverEnds() {
        try {
            Thread.sleep(MOST_MILLISECONDS);
        } catch (InterruptedException e) {
            return;
        }
        System.out.println(test + ": not at its end after " + MOST_MILLISECONDS + " ms");
        Runtime.getRuntime().halt(1);
    }

    private void due(String call, int got, int want) {
        checks++;
        if (got != want) {
            tell(call + " answered " + got + ", due is " + want);
        }
    }

    void tell(String what) {
        wrong++;
        if (wrong <= MOST_SHOWN) {
            System.out.println((sentence.isEmpty() ? "" : "[" + sentence + "] ") + what);
        }
    }
}
