/** Promise 9: feed. */
public final class FeedTest {
    public static void main(String[] args) {
        Due due = new Due();
        comesBehind(due);
        holdsFourHundred(due);
        refuses(due);
        due.end();
    }

    private static void comesBehind(Due due) {
        BoundedCodes x = Some.withLengths(0, 2, 2, 2, 2);
        Some.feedAll(x, "100111");
        due.answer("first", x.read(), 2);
        x.feed(0);
        x.feed(0);
        due.answer("second", x.read(), 1);
        due.answer("third", x.read(), 3);
        due.answer("fourth", x.read(), 0);
    }

    private static void holdsFourHundred(Due due) {
        BoundedCodes x = Some.withLengths(0, 1, 2, 3, 3);
        for (int i = 0; i < 400; i++) {
            due.answer("feed number " + i, x.feed(i == 399 ? 0 : 1), true);
        }
        due.answer("feed(0) when 400 wait", x.feed(0), false);
        due.answer("waiting()", x.waiting(), 400);
        due.refusal("feed(2) when 400 wait", IllegalArgumentException.class, () -> x.feed(2));
        due.answer("read()", x.read(), 3);
        due.answer("feed(1) when 397 wait", x.feed(1), true);
        due.answer("feed(0) when 398 wait", x.feed(0), true);
        due.answer("feed(1) when 399 wait", x.feed(1), true);
        due.answer("feed(1) when 400 wait again", x.feed(1), false);
        for (int i = 1; i <= 80; i++) {
            due.answer("read number " + i, x.read(), 3);
        }
        due.answer("waiting() behind 80 reads", x.waiting(), 400 - 3 * 80);
    }

    private static void refuses(Due due) {
        BoundedCodes x = new BoundedCodes(0);
        int[] wrong = {-1, 2, Integer.MIN_VALUE, Integer.MAX_VALUE};
        for (int bit : wrong) {
            due.refusal("feed(" + bit + ")", IllegalArgumentException.class, () -> x.feed(bit));
        }
        due.answer("waiting() behind refusals", x.waiting(), 0);
    }
}
