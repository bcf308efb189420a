/** Promise 9: feed. */
public final class FeedTest {
    public static void main(String[] args) {
        Due due = new Due();
        due.sentence("A bit comes behind those that wait: whether it does");
        comesBehind(due);
        comesWithoutCodes(due);
        comesToAnOverFullTable(due);
        due.sentence("not, if 400 wait");
        takesFourHundred(due);
        takesNoneMore(due);
        takesAsManyAsWent(due);
        takesAllAfterClear(due);
        due.sentence("what does not come changes nothing");
        fullChangesNothing(due);
        due.sentence("bits that wait past the end of what holds them");
        goesRound(due);
        due.sentence("IllegalArgument: it is not 0 or 1");
        refusesOtherBits(due);
        refusesWhenFull(due);
        due.sentence("A call that throws changes nothing");
        refusalsChangeNothing(due);
        due.end();
    }

    private static void comesBehind(Due due) {
        BoundedCodes x = Some.withLengths(0, 2, 2, 2, 2);
        Some.feedAll(x, "100111");
        due.answer("first", x.read(), 2);
        due.answer("feed(0)", x.feed(0), true);
        due.answer("feed(0)", x.feed(0), true);
        due.answer("second", x.read(), 1);
        due.answer("third", x.read(), 3);
        due.answer("fourth", x.read(), 0);
        due.answer("feed(1)", x.feed(1), true);
        due.answer("waiting()", x.waiting(), 1);
    }

    private static void comesWithoutCodes(Due due) {
        BoundedCodes x = new BoundedCodes(0);
        due.answer("feed(1) without codes", x.feed(1), true);
        due.answer("waiting()", x.waiting(), 1);
        x.given(3, 1);
        x.given(4, 1);
        due.answer("read() with codes that came later", x.read(), 4);
    }

    private static void comesToAnOverFullTable(Due due) {
        BoundedCodes x = Some.overFull();
        due.answer("feed(1), over-full", x.feed(1), true);
        x.given(2, 0);
        due.answer("read() when it is not any more", x.read(), 1);
    }

    private static void takesFourHundred(Due due) {
        BoundedCodes x = new BoundedCodes(0);
        for (int i = 1; i <= 400; i++) {
            due.answer("feed number " + i, x.feed(i % 2), true);
        }
        due.answer("waiting()", x.waiting(), 400);
    }

    private static void takesNoneMore(Due due) {
        BoundedCodes x = Some.fullOfBits();
        due.answer("feed(0) when 400 wait", x.feed(0), false);
        due.answer("feed(1) when 400 wait", x.feed(1), false);
        due.answer("waiting()", x.waiting(), 400);
    }

    private static void takesAsManyAsWent(Due due) {
        BoundedCodes x = Some.withLengths(0, 1, 2, 3, 3);
        for (int i = 1; i <= 400; i++) {
            x.feed(i == 400 ? 0 : 1);
        }
        due.answer("read()", x.read(), 3);
        due.answer("feed(1) when 397 wait", x.feed(1), true);
        due.answer("feed(0) when 398 wait", x.feed(0), true);
        due.answer("feed(1) when 399 wait", x.feed(1), true);
        due.answer("feed(1) when 400 wait again", x.feed(1), false);
        due.answer("waiting()", x.waiting(), 400);
        BoundedCodes y = Some.fullOfBits();
        y.given(0, 0);
        y.given(1, 0);
        due.answer("read() of a bit that begins no code", y.read(), BoundedCodes.NO_CODE);
        due.answer("feed(1) when 399 wait", y.feed(1), true);
        due.answer("feed(1) when 400 wait", y.feed(1), false);
    }

    private static void takesAllAfterClear(Due due) {
        BoundedCodes x = new BoundedCodes(0);
        Some.feedAll(x, "1".repeat(50));
        x.clear();
        for (int i = 1; i <= 400; i++) {
            due.answer("feed number " + i + " behind clear", x.feed(0), true);
        }
        due.answer("feed(0) when 400 wait behind clear", x.feed(0), false);
    }

    private static void fullChangesNothing(Due due) {
        Unchanged.by(due, "feed(0) when 400 wait", "false", Some::fullOfBits, x -> x.feed(0));
        Unchanged.by(due, "feed(1) when 400 wait", "false", Some::fullOfBits, x -> x.feed(1));
    }

    /** 400 bits wait, and 75 more come where the first 75 were: they are read behind all others. */
    private static void goesRound(Due due) {
        BoundedCodes x = Some.withLengths(0, 1);
        x.range(0, 0, 24, 1);
        Some.feedAll(x, "0".repeat(400));
        for (int i = 1; i <= 3; i++) {
            due.answer("read() number " + i, x.read(), 0);
        }
        for (int i = 1; i <= 75; i++) {
            due.answer("feed number " + i + " behind the end", x.feed(i % 25 == 1 ? 0 : 1), true);
        }
        due.answer("waiting()", x.waiting(), 400);
        for (int i = 1; i <= 13; i++) {
            x.read();
        }
        due.answer("last() of the first ones", x.last(), 0);
        for (int i = 1; i <= 3; i++) {
            due.answer("read() behind the end", x.read(), 0);
            due.answer("last() behind the end", x.last(), 16777215);
        }
        due.answer("waiting()", x.waiting(), 0);
    }

    private static void refusesOtherBits(Due due) {
        BoundedCodes x = new BoundedCodes(0);
        for (int bit : new int[] {-1, 2, 3, -2, 256, Integer.MIN_VALUE, Integer.MIN_VALUE + 1, Integer.MAX_VALUE}) {
            due.refusal("feed(" + bit + ")", IllegalArgumentException.class, () -> x.feed(bit));
        }
        due.answer("feed(0)", x.feed(0), true);
        due.answer("feed(1)", x.feed(1), true);
        due.answer("waiting()", x.waiting(), 2);
    }

    private static void refusesWhenFull(Due due) {
        BoundedCodes x = Some.fullOfBits();
        due.refusal("feed(2) when 400 wait", IllegalArgumentException.class, () -> x.feed(2));
        due.refusal("feed(-1) when 400 wait", IllegalArgumentException.class, () -> x.feed(-1));
    }

    private static void refusalsChangeNothing(Due due) {
        for (int bit : new int[] {-1, 2, Integer.MIN_VALUE, Integer.MAX_VALUE}) {
            String call = "feed(" + bit + ")";
            Unchanged.refused(due, call, IllegalArgumentException.class, Some::busy, x -> x.feed(bit));
            Unchanged.refused(due, call + " when 400 wait", IllegalArgumentException.class, Some::fullOfBits,
                    x -> x.feed(bit));
        }
    }
}
