/** Promise 1: a new object has no text. */
public final class NewObjectTest {
    public static void main(String[] args) {
        Subject subject = new Subject("NewObjectTest");
        noTextYet(subject);
        textFromTheFirstMake(subject);
        noTextFromARefusedMake(subject);
        noTextFromDigits(subject);
        noTextOfAnotherObject(subject);
        subject.finish();
    }

    private static void noTextYet(Subject subject) {
        subject.sentence("A new object: No text");
        for (int i = -3; i < 450; i++) {
            subject.at(i, -1);
        }
        subject.at(Integer.MAX_VALUE, -1);
        subject.at(Integer.MIN_VALUE, -1);
    }

    /** The other side: the first make that is not refused ends it, and reading before does not hinder that. */
    private static void textFromTheFirstMake(Subject subject) {
        subject.sentence("A new object: No text, until one is made");
        subject.at(0, -1);
        subject.make(0.0, 0, 0, 0, 0, 1);
        subject.at(0, '0');
        subject.at(1, -1);
    }

    private static void noTextFromARefusedMake(Subject subject) {
        subject.sentence("No text, and the text stays if make is refused");
        subject.make(1.0, 3, 0, 0, 0, -1);
        subject.holds("");
        subject.make(1.0, 0, 16, 0, 0, -1);
        subject.holds("");
        subject.make(1.0, 0, 0, 401, 0, -1);
        subject.holds("");
        subject.make(1.0, 0, 0, 0, 32, -1);
        subject.holds("");
        subject.make(0x7FF0000000000001L, 0, 0, 0, 0, -1);
        subject.holds("");
    }

    private static void noTextFromDigits(Subject subject) {
        subject.sentence("No text, and digits makes none");
        subject.digits(123.5, 4);
        subject.holds("");
        subject.digits(Double.POSITIVE_INFINITY, -1);
        subject.holds("");
    }

    private static void noTextOfAnotherObject(Subject subject) {
        subject.sentence("No text, though another object has one");
        DecimalText other = new DecimalText();
        other.make(Double.doubleToRawLongBits(12.0), 0, 0, 0, 0);
        subject.holds("");
        subject.renew();
        subject.holds("");
        subject.make(-7.0, 0, 0, 0, 0, 2);
        if (other.at(0) != '1' || other.at(1) != '2' || other.at(2) != -1) {
            subject.tell("the text of another object has changed");
        }
    }
}
