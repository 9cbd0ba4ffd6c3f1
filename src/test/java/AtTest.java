/** Promise 3: the characters of the text, and -1 where there is none. */
public final class AtTest {
    public static void main(String[] args) {
        Subject subject = new Subject("AtTest");
        everyCharacter(subject);
        beforeTheFirst(subject);
        behindTheLast(subject);
        behindTheLongest(subject);
        noText(subject);
        behindAShorterText(subject);
        readingChangesNothing(subject);
        subject.finish();
    }

    private static void everyCharacter(Subject subject) {
        subject.sentence("The code of character i of the text");
        reads(subject, 0.125, 0, 3, 7, 2, " +0.125");
        reads(subject, 0.125, 2, 1, 9, 1, "1.2E-01  ");
        reads(subject, -1234567890.0, 0, 0, 0, 0, "-1234567890");
        reads(subject, Double.POSITIVE_INFINITY, 0, 0, 0, 0, "inf");
        reads(subject, 1e10, 1, 0, 8, 8, "0001e+10");
    }

    private static void reads(Subject subject, double value, int how, int p, int width, int flags, String want) {
        subject.make(value, how, p, width, flags, want.length());
        for (int i = want.length() - 1; i >= 0; i--) {
            subject.at(i, want.charAt(i));
        }
    }

    private static void beforeTheFirst(Subject subject) {
        subject.sentence("0 the first; -1 if there is none (before it)");
        subject.make(5.25, 0, 2, 0, 0, 4);
        subject.at(0, '5');
        subject.at(-1, -1);
        subject.at(-2, -1);
        subject.at(-4, -1);
        subject.at(-400, -1);
        subject.at(Integer.MIN_VALUE, -1);
        subject.at(Integer.MIN_VALUE + 1, -1);
    }

    private static void behindTheLast(Subject subject) {
        subject.sentence("-1 if there is none (behind the last)");
        subject.make(5.25, 0, 2, 0, 0, 4);
        subject.at(3, '5');
        subject.at(4, -1);
        int[] further = {5, 6, 255, 256, 260, 325, 326, 399, 400, 401, 773, 774, 65536, 65539, Integer.MAX_VALUE};
        for (int i : further) {
            subject.at(i, -1);
        }
        subject.make(5.0, 0, 0, 0, 0, 1);
        subject.at(0, '5');
        subject.at(1, -1);
        subject.make(5.0, 0, 0, 4, 1, 4);
        subject.at(3, ' ');
        subject.at(4, -1);
    }

    private static void behindTheLongest(Subject subject) {
        subject.sentence("-1 if there is none (behind a text of 400)");
        subject.make(-7.0, 0, 0, 399, 0, 399);
        subject.at(398, '7');
        subject.at(399, -1);
        subject.make(-7.0, 0, 0, 400, 0, 400);
        subject.at(0, ' ');
        subject.at(397, ' ');
        subject.at(398, '-');
        subject.at(399, '7');
        subject.at(400, -1);
        subject.at(401, -1);
        subject.at(-1, -1);
    }

    private static void noText(Subject subject) {
        subject.sentence("-1 if there is none (no text)");
        subject.at(0, -1);
        subject.at(1, -1);
        subject.at(-1, -1);
        subject.at(399, -1);
        subject.at(400, -1);
    }

    private static void behindAShorterText(Subject subject) {
        subject.sentence("-1 if there is none (any more, of the text before)");
        subject.make(0.125, 0, 15, 400, 8, 400);
        subject.make(0.125, 0, 0, 0, 0, 1);
        subject.at(0, '0');
        for (int i = 1; i < 400; i++) {
            subject.at(i, -1);
        }
    }

    private static void readingChangesNothing(Subject subject) {
        subject.sentence("at answers and changes nothing");
        subject.make(0.125, 0, 3, 0, 0, 5);
        for (int round = 0; round < 3; round++) {
            subject.at(5, -1);
            subject.at(-1, -1);
            subject.at(2, '1');
            subject.holds("0.125");
        }
    }
}
