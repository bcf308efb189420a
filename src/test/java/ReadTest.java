/** Promise 10: read. */
public final class ReadTest {
    public static void main(String[] args) {
        Due due = new Due();
        readsByEachRule(due);
        waitsForACode(due);
        waitsForExtraBits(due);
        findsNoCode(due);
        goesRound(due);
        followsTheTable(due);
        refuses(due);
        due.end();
    }

    private static void reads(Due due, BoundedCodes x, int... symbols) {
        for (int symbol : symbols) {
            due.answer("read()", x.read(), symbol);
        }
    }

    private static void readsByEachRule(Due due) {
        String[] bits = {
            "100 101 1100 1101000000000000 0",
            "011 010 0011 0010111111111111 1",
            "001 010 0001 0000000000000000 1",
        };
        for (int rule = 0; rule < 3; rule++) {
            BoundedCodes x = Some.withLengths(rule, 3, 1, 16, 3, 4);
            Some.feedAll(x, bits[rule].replace(" ", ""));
            due.answer("waiting() by rule " + rule, x.waiting(), 27);
            reads(due, x, 0, 3, 4, 2, 1);
            due.answer("waiting() behind reads by rule " + rule, x.waiting(), 0);
        }
    }

    private static void waitsForACode(Due due) {
        due.answer("read() with no codes and no bits", new BoundedCodes(0).read(), BoundedCodes.WAITS);
        due.answer("read() with no bits", Some.withLengths(0, 1, 1).read(), BoundedCodes.WAITS);
        BoundedCodes x = Some.withLengths(0, 16);
        for (int i = 0; i < 16; i++) {
            due.answer("read() with " + i + " of 16", x.read(), BoundedCodes.WAITS);
            due.answer("waiting()", x.waiting(), i);
            x.feed(0);
        }
        due.answer("read() with 16 of 16", x.read(), 0);
    }

    private static void waitsForExtraBits(Due due) {
        BoundedCodes x = new BoundedCodes(0);
        x.range(0, 10, 2, 2);
        x.range(1, 10, -3, 2);
        for (int i = 0; i < 3; i++) {
            x.feed(i == 2 ? 1 : 0);
            due.answer("read() too early", x.read(), BoundedCodes.WAITS);
            due.refusal("last() too early", IllegalArgumentException.class, () -> x.last());
        }
        due.answer("waiting() too early", x.waiting(), 3);
        x.feed(1);
        due.answer("read() in time", x.read(), 0);
        due.answer("waiting() behind it", x.waiting(), 0);
        Some.feedAll(x, "0111");
        due.answer("read() too early for -3", x.read(), BoundedCodes.WAITS);
        due.answer("last() is as before", x.last(), 13);
        Some.feedAll(x, "00");
        due.answer("read() in time for -3", x.read(), 1);
        due.answer("waiting() behind -3", x.waiting(), 1);
    }

    private static void noCode(Due due, int rule, int[] lengths, String bits, int left) {
        BoundedCodes x = Some.withLengths(rule, lengths);
        Some.feedAll(x, bits);
        due.answer("read() of " + bits, x.read(), BoundedCodes.NO_CODE);
        due.answer("waiting() behind " + bits, x.waiting(), left);
        due.refusal("last() behind " + bits, IllegalArgumentException.class, () -> x.last());
    }

    private static void findsNoCode(Due due) {
        noCode(due, 0, new int[] {}, "1", 0);
        noCode(due, 0, new int[] {}, "01", 1);
        noCode(due, 0, new int[] {1}, "100", 2);
        noCode(due, 0, new int[] {2, 4}, "010100", 2);
        noCode(due, 0, new int[] {2, 4}, "01100", 2);
        noCode(due, 0, new int[] {16}, "0".repeat(15) + "1", 0);
        noCode(due, 0, new int[] {16}, "0".repeat(15) + "100", 2);
        noCode(due, 1, new int[] {2, 2, 5}, "0011", 2);
        noCode(due, 2, new int[] {4, 2}, "0010", 1);
        BoundedCodes x = Some.withLengths(0, 2, 4);
        Some.feedAll(x, "00" + "0101" + "011" + "1" + "0100" + "01");
        reads(due, x, 0, -2, -2, -2, 1, -1);
        due.answer("last() behind NO_CODE and others", x.last(), 1);
    }

    /** More bits in all than can wait at once, so that the store is gone round. */
    private static void goesRound(Due due) {
        BoundedCodes x = new BoundedCodes(0);
        x.range(0, 0, 32, 1);
        x.range(1, 0, 16, 1);
        Some.feedAll(x, "1".repeat(370) + "0".repeat(30));
        for (int i = 0; i < 21; i++) {
            due.answer("read() number " + i, x.read(), 1);
            due.answer("last() number " + i, x.last(), 65535);
        }
        // 400 - 21 * 17 = 43 bits are left: 13 times 1 and 30 times 0.
        due.answer("waiting()", x.waiting(), 43);
        due.answer("read() to the end", x.read(), 1);
        due.answer("last() to the end", x.last(), 0b1111111111110000);
        due.answer("waiting() to the end", x.waiting(), 26);
        Some.feedAll(x, "1011000");
        due.answer("read() across the end", x.read(), 0);
        due.answer("last() across the end", x.last(), 0b1011000);
        due.answer("waiting() across the end", x.waiting(), 0);
    }

    private static void followsTheTable(Due due) {
        BoundedCodes x = Some.withLengths(0, 1, 2, 2);
        Some.feedAll(x, "101010");
        reads(due, x, 1);
        x.given(0, 0);
        reads(due, x, -2);
        due.answer("waiting()", x.waiting(), 3);
        x.given(40, 1);
        reads(due, x, 40, 1, -1);
    }

    private static void refuses(Due due) {
        BoundedCodes x = Some.withLengths(0, 1, 1);
        due.refusal("read() over-full without bits", IllegalStateException.class, () -> Some.overFull().read());
        Some.feedAll(x, "01");
        x.read();
        x.given(2, 16);
        due.refusal("read() over-full", IllegalStateException.class, () -> x.read());
        due.answer("waiting() behind it", x.waiting(), 1);
        due.answer("last() behind it", x.last(), 0);
        x.given(2, 0);
        due.answer("read() not over-full any more", x.read(), 1);
    }
}
