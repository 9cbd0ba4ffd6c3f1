/** Promise 1: a new object has no text. */
public final class NewObjectTest {
    public static void main(String[] args) {
        Subject subject = new Subject("NewObjectTest");
        for (int i = -3; i < 450; i++) {
            subject.at(i, -1);
        }
        subject.at(Integer.MAX_VALUE, -1);
        subject.at(Integer.MIN_VALUE, -1);

        subject.renew();
        subject.digits(Double.doubleToRawLongBits(123.5), 4);
        subject.make(0L, 3, 0, 0, 0, -1);
        subject.holds("");

        // A text belongs to its object alone.
        subject.text(12.0, 0, 0, 0, 0, "12");
        subject.renew();
        subject.holds("");
        subject.finish();
    }
}
