/** Promise 3: the characters of the text, and -1 where there is none. */
public final class AtTest {
    private static final long ONE_EIGHTH = Double.doubleToRawLongBits(0.125);

    public static void main(String[] args) {
        Subject subject = new Subject("AtTest");
        readsEveryCharacter(subject);
        refusesEveryOtherIndex(subject);
        forgetsTheTextBefore(subject);
        subject.finish();
    }

    private static void readsEveryCharacter(Subject subject) {
        subject.renew();
        subject.make(ONE_EIGHTH, 0, 3, 7, 2, 7);
        int[] codes = {' ', '+', '0', '.', '1', '2', '5'};
        for (int i = 0; i < codes.length; i++) {
            subject.at(i, codes[i]);
        }
        for (int i = codes.length - 1; i >= 0; i--) {
            subject.at(i, codes[i]);
        }
        subject.make(ONE_EIGHTH, 2, 1, 9, 1, 9);
        int[] more = {'1', '.', '2', 'E', '-', '0', '1', ' ', ' '};
        for (int i = 0; i < more.length; i++) {
            subject.at(i, more[i]);
        }
        subject.make(Double.doubleToRawLongBits(-7.0), 0, 0, 400, 0, 400);
        subject.at(0, ' ');
        subject.at(397, ' ');
        subject.at(398, '-');
        subject.at(399, '7');
        subject.at(400, -1);
    }

    private static void refusesEveryOtherIndex(Subject subject) {
        subject.renew();
        subject.make(ONE_EIGHTH, 0, 3, 0, 0, 5);
        int[] wrong = {-1, -2, -400, Integer.MIN_VALUE, 5, 6, 325, 399, 400, 401, 773, 774, Integer.MAX_VALUE};
        for (int i : wrong) {
            subject.at(i, -1);
        }
        subject.holds("0.125");
    }

    private static void forgetsTheTextBefore(Subject subject) {
        subject.renew();
        subject.make(ONE_EIGHTH, 0, 15, 400, 8, 400);
        subject.make(ONE_EIGHTH, 0, 0, 0, 0, 1);
        subject.holds("0");
        for (int i = 1; i < 400; i++) {
            subject.at(i, -1);
        }
    }
}
