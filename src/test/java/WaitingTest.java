/** Promise 12: waiting. */
public final class WaitingTest {
    public static void main(String[] args) {
        Due due = new Due();
        due.sentence("How many bits wait: none");
        isZeroAtFirst(due);
        isZeroWhenAllWent(due);
        due.sentence("How many bits wait");
        growsByFeeding(due);
        shrinksByReading(due);
        heedsNothingElse(due);
        due.sentence("How many bits wait: 400 at most");
        reachesFourHundred(due);
        staysRightPastTheEnd(due);
        due.sentence("what tells something only changes nothing");
        changesNothing(due);
        due.end();
    }

    private static void isZeroAtFirst(Due due) {
        due.answer("waiting() at first", new BoundedCodes(0).waiting(), 0);
        due.answer("waiting() with lengths", Some.withLengths(0, 1, 1).waiting(), 0);
        BoundedCodes x = new BoundedCodes(0);
        due.refusal("feed(2)", IllegalArgumentException.class, () -> x.feed(2));
        due.answer("waiting() behind a refusal", x.waiting(), 0);
        x.read();
        due.answer("waiting() behind WAITS", x.waiting(), 0);
    }

    private static void isZeroWhenAllWent(Due due) {
        BoundedCodes x = Some.withLengths(0, 2);
        Some.feedAll(x, "00");
        x.read();
        due.answer("waiting() behind the only symbol", x.waiting(), 0);
        Some.feedAll(x, "01");
        x.read();
        due.answer("waiting() behind NO_CODE", x.waiting(), 0);
        Some.feedAll(x, "0101");
        x.clear();
        due.answer("waiting() behind clear", x.waiting(), 0);
    }

    private static void growsByFeeding(Due due) {
        BoundedCodes x = Some.withLengths(0, 1, 3);
        for (int i = 1; i <= 20; i++) {
            x.feed(i % 2);
            due.answer("waiting() behind " + i, x.waiting(), i);
        }
    }

    private static void shrinksByReading(Due due) {
        BoundedCodes x = Some.withLengths(0, 1, 3);
        x.range(2, 0, -4, 3);
        Some.feedAll(x, "11" + "0" + "100" + "1011111" + "10");
        due.answer("waiting() before reads", x.waiting(), 15);
        x.read();
        due.answer("waiting() behind NO_CODE of 2 bits", x.waiting(), 13);
        x.read();
        due.answer("waiting() behind a code of 1 bit", x.waiting(), 12);
        x.read();
        due.answer("waiting() behind a code of 3 bits", x.waiting(), 9);
        x.read();
        due.answer("waiting() behind a code of 3 bits and 4 extra ones", x.waiting(), 2);
        x.read();
        due.answer("waiting() behind WAITS", x.waiting(), 2);
    }

    private static void heedsNothingElse(Due due) {
        BoundedCodes x = Some.withLengths(0, 1, 3);
        Some.feedAll(x, "10");
        x.read();
        due.answer("waiting() behind WAITS", x.waiting(), 2);
        due.refusal("feed(2)", IllegalArgumentException.class, () -> x.feed(2));
        due.answer("waiting() behind a refusal", x.waiting(), 2);
        x.range(1, 0, -4, 2);
        x.count(5, 1);
        x.make(3);
        x.given(7, 1);
        due.answer("waiting() behind range, count, make and given", x.waiting(), 2);
        x.given(8, 1);
        due.answer("waiting(), over-full", x.waiting(), 2);
    }

    private static void reachesFourHundred(Due due) {
        BoundedCodes x = new BoundedCodes(0);
        Some.feedAll(x, "1".repeat(399));
        due.answer("waiting() behind 399", x.waiting(), 399);
        x.feed(1);
        due.answer("waiting() behind 400", x.waiting(), 400);
        x.feed(1);
        due.answer("waiting() behind 401", x.waiting(), 400);
        x.read();
        due.answer("waiting() behind NO_CODE", x.waiting(), 399);
    }

    private static void staysRightPastTheEnd(Due due) {
        BoundedCodes x = Some.fullOfBits();
        x.read();
        due.answer("waiting() behind a read", x.waiting(), 375);
        Some.feedAll(x, "0".repeat(25));
        due.answer("waiting() past the end", x.waiting(), 400);
        for (int i = 1; i <= 16; i++) {
            x.read();
            due.answer("waiting() behind read " + i, x.waiting(), 400 - 25 * i);
        }
    }

    private static void changesNothing(Due due) {
        Unchanged.by(due, "waiting()", "19", Some::busy, x -> x.waiting());
        Unchanged.by(due, "waiting() when 400 wait", "400", Some::fullOfBits, x -> x.waiting());
    }
}
