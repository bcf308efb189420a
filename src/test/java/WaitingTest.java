/** Promise 12: waiting. */
public final class WaitingTest {
    public static void main(String[] args) {
        Due due = new Due();
        BoundedCodes x = Some.withLengths(0, 1, 3);
        due.answer("waiting() at first", x.waiting(), 0);
        for (int i = 1; i <= 20; i++) {
            x.feed(i % 2);
            due.answer("waiting() behind " + i, x.waiting(), i);
        }
        x.read();
        due.answer("waiting() behind NO_CODE of 101", x.waiting(), 17);
        x.read();
        due.answer("waiting() behind a code of 1", x.waiting(), 16);
        due.refusal("feed(2)", IllegalArgumentException.class, () -> x.feed(2));
        due.answer("waiting() behind a refusal", x.waiting(), 16);
        x.range(1, 0, -4, 2);
        Some.feedAll(x, "0");
        x.make(3);
        due.answer("waiting() behind range and make", x.waiting(), 17);
        x.clear();
        due.answer("waiting() behind clear", x.waiting(), 0);
        due.end();
    }
}
