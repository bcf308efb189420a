/** Promise 10: read. */
public final class ReadTest {
    public static void main(String[] args) {
        Due due = new Due();
        due.sentence("The symbol whose code is the first of the bits that wait: these go");
        readsByEachRule(due);
        readsTheShortestAndTheLongest(due);
        readsOutermostSymbols(due);
        followsTheTable(due);
        due.sentence("and as many behind as it has extra bits (less than 0: as many as without the sign)");
        takesExtraBits(due);
        due.sentence("WAITS, with nothing changed, if there is such a code but not all of these bits wait");
        waitsForExtraBits(due);
        waitsForTheLastExtraBit(due);
        due.sentence("WAITS, with nothing changed, if what waits is the beginning of a code");
        waitsForACode(due);
        waitsForTheLastBitOfACode(due);
        waitsWithoutBits(due);
        due.sentence("NO_CODE: else; the least number of bits that begin no code go");
        findsNoCode(due);
        findsNoCodeAtTheFirstAndTheLastBit(due);
        findsNoCodeWithoutCodes(due);
        findsNoCodeOfBitsThatAreEnough(due);
        due.sentence("bits that wait past the end of what holds them");
        readsAllThatCanWait(due);
        goesRound(due);
        goesRoundAtEveryPlace(due);
        due.sentence("IllegalState: the table is over-full");
        readsWhenJustComplete(due);
        refusesWhenJustOverFull(due);
        due.sentence("A call that throws changes nothing");
        refusalsChangeNothing(due);
        due.end();
    }

    private static void reads(Due due, BoundedCodes x, int... symbols) {
        for (int symbol : symbols) {
            due.answer("read()", x.read(), symbol);
        }
    }

    private static void readsByEachRule(Due due) {
        String[] bits = {
            "100 101 1100 1101000000000000 0",
            "011 010 0011 0010111111111111 1",
            "001 010 0001 0000000000000000 1",
        };
        for (int rule = 0; rule < 3; rule++) {
            BoundedCodes x = Some.withLengths(rule, 3, 1, 16, 3, 4);
            Some.feedAll(x, bits[rule].replace(" ", ""));
            due.answer("waiting() by rule " + rule, x.waiting(), 27);
            reads(due, x, 0, 3, 4, 2, 1);
            due.answer("waiting() behind reads by rule " + rule, x.waiting(), 0);
        }
    }

    private static void readsTheShortestAndTheLongest(Due due) {
        for (int length = 1; length <= 16; length++) {
            BoundedCodes x = Some.withLengths(0, length, length);
            Some.feedAll(x, "0".repeat(length) + "0".repeat(length - 1) + "1" + "0");
            reads(due, x, 0, 1);
            due.answer("waiting() behind codes of length " + length, x.waiting(), 1);
        }
    }

    private static void readsOutermostSymbols(Due due) {
        BoundedCodes x = new BoundedCodes(0);
        x.given(0, 1);
        x.given(47, 1);
        Some.feedAll(x, "10");
        reads(due, x, 47, 0);
        BoundedCodes y = new BoundedCodes(2);
        for (int symbol = 0; symbol < Some.SYMBOLS; symbol++) {
            y.given(symbol, 6);
        }
        for (int symbol = 0; symbol < Some.SYMBOLS; symbol++) {
            for (int i = 5; i >= 0; i--) {
                y.feed(symbol >> i & 1);
            }
            reads(due, y, symbol);
        }
    }

    private static void followsTheTable(Due due) {
        BoundedCodes x = Some.withLengths(0, 1, 2, 2);
        Some.feedAll(x, "101010");
        reads(due, x, 1);
        x.given(0, 0);
        reads(due, x, -2);
        due.answer("waiting()", x.waiting(), 3);
        x.given(40, 1);
        reads(due, x, 40, 1, -1);
    }

    private static void takesExtraBits(Due due) {
        for (int extra = -32; extra <= 32; extra++) {
            BoundedCodes x = new BoundedCodes(0);
            x.range(9, 1, extra, 2);
            Some.feedAll(x, "00" + "1".repeat(Math.abs(extra)) + "01");
            reads(due, x, 9);
            due.answer("waiting() behind " + extra + " extra bits", x.waiting(), 2);
        }
    }

    private static void waitsForExtraBits(Due due) {
        BoundedCodes x = new BoundedCodes(0);
        x.range(0, 10, 2, 2);
        x.range(1, 10, -3, 2);
        for (int i = 0; i < 3; i++) {
            x.feed(i == 2 ? 1 : 0);
            due.answer("read() too early", x.read(), BoundedCodes.WAITS);
            due.refusal("last() too early", IllegalArgumentException.class, () -> x.last());
        }
        due.answer("waiting() too early", x.waiting(), 3);
        x.feed(1);
        due.answer("read() in time", x.read(), 0);
        due.answer("waiting() behind it", x.waiting(), 0);
        Some.feedAll(x, "0111");
        due.answer("read() too early for -3", x.read(), BoundedCodes.WAITS);
        due.answer("last() is as before", x.last(), 13);
        Some.feedAll(x, "00");
        due.answer("read() in time for -3", x.read(), 1);
        due.answer("waiting() behind -3", x.waiting(), 1);
    }

    private static BoundedCodes withBits(int extra, int length, String bits) {
        BoundedCodes x = new BoundedCodes(0);
        x.count(9, 3);
        x.range(9, 100, extra, length);
        Some.feedAll(x, bits);
        return x;
    }

    private static void waitsForTheLastExtraBit(Due due) {
        for (int extra : new int[] {1, -1, 2, -2, 31, -31, 32, -32}) {
            for (int length : new int[] {1, 16}) {
                String lacking = "0".repeat(length) + "1".repeat(Math.abs(extra) - 1);
                Unchanged.by(due, "read() for " + extra + " extra bits, one is lacking", "-1",
                        () -> withBits(extra, length, lacking), x -> x.read());
                reads(due, withBits(extra, length, lacking + "1"), 9);
            }
        }
        Unchanged.by(due, "read() behind a symbol", "-1", () -> {
            BoundedCodes x = Some.busy();
            for (int i = 1; i <= 5; i++) {
                x.read();
            }
            return x;
        }, x -> x.read());
    }

    private static void waitsForACode(Due due) {
        BoundedCodes x = Some.withLengths(0, 16);
        for (int i = 0; i < 16; i++) {
            due.answer("read() with " + i + " of 16", x.read(), BoundedCodes.WAITS);
            due.answer("waiting()", x.waiting(), i);
            x.feed(0);
        }
        due.answer("read() with 16 of 16", x.read(), 0);
    }

    private static void waitsForTheLastBitOfACode(Due due) {
        for (int length = 2; length <= 16; length++) {
            int one = length;
            Unchanged.by(due, "read(), the last bit of " + one + " is lacking", "-1",
                    () -> withBits(0, one, "0".repeat(one - 1)), x -> x.read());
        }
        Unchanged.by(due, "read() of what begins two codes", "-1", () -> {
            BoundedCodes x = Some.withLengths(0, 1, 3, 3);
            Some.feedAll(x, "10");
            return x;
        }, x -> x.read());
    }

    private static void waitsWithoutBits(Due due) {
        Unchanged.by(due, "read() with no codes and no bits", "-1", () -> new BoundedCodes(0), x -> x.read());
        Unchanged.by(due, "read() with no bits", "-1", () -> Some.withLengths(0, 1, 1), x -> x.read());
        Unchanged.by(due, "read() when all bits went", "-1", () -> {
            BoundedCodes x = withBits(2, 1, "011");
            x.read();
            return x;
        }, x -> x.read());
    }

    private static void noCode(Due due, int rule, int[] lengths, String bits, int left) {
        BoundedCodes x = Some.withLengths(rule, lengths);
        Some.feedAll(x, bits);
        due.answer("read() of " + bits, x.read(), BoundedCodes.NO_CODE);
        due.answer("waiting() behind " + bits, x.waiting(), left);
        due.refusal("last() behind " + bits, IllegalArgumentException.class, () -> x.last());
    }

    private static void findsNoCode(Due due) {
        noCode(due, 0, new int[] {2, 4}, "010100", 2);
        noCode(due, 0, new int[] {2, 4}, "01100", 2);
        noCode(due, 1, new int[] {2, 2, 5}, "0011", 2);
        noCode(due, 2, new int[] {4, 2}, "0010", 1);
        BoundedCodes x = Some.withLengths(0, 2, 4);
        Some.feedAll(x, "00" + "0101" + "011" + "1" + "0100" + "01");
        reads(due, x, 0, -2, -2, -2, 1, -1);
        due.answer("last() behind NO_CODE and others", x.last(), 1);
    }

    private static void findsNoCodeAtTheFirstAndTheLastBit(Due due) {
        noCode(due, 0, new int[] {1}, "1", 0);
        noCode(due, 0, new int[] {1}, "100", 2);
        noCode(due, 1, new int[] {1}, "011", 2);
        noCode(due, 0, new int[] {16}, "1" + "0".repeat(20), 20);
        noCode(due, 0, new int[] {16}, "0".repeat(15) + "1", 0);
        noCode(due, 0, new int[] {16}, "0".repeat(15) + "100", 2);
        for (int n = 1; n <= 16; n++) {
            noCode(due, 0, new int[] {16}, "0".repeat(n - 1) + "1" + "0".repeat(20), 20);
        }
    }

    private static void findsNoCodeWithoutCodes(Due due) {
        noCode(due, 0, new int[] {}, "1", 0);
        noCode(due, 0, new int[] {}, "0", 0);
        noCode(due, 0, new int[] {}, "01", 1);
        noCode(due, 1, new int[] {}, "0".repeat(20), 19);
        noCode(due, 2, new int[] {}, "0".repeat(20), 19);
    }

    /** What begins no code is told at once: no further bits are waited for. */
    private static void findsNoCodeOfBitsThatAreEnough(Due due) {
        BoundedCodes x = Some.withLengths(0, 3, 16);
        Some.feedAll(x, "001");
        reads(due, x, -1);
        Some.feedAll(x, "1");
        reads(due, x, -2);
        due.answer("waiting() behind 0011", x.waiting(), 0);
    }

    private static void readsAllThatCanWait(Due due) {
        BoundedCodes x = Some.fullOfBits();
        for (int i = 0; i < 16; i++) {
            int first = i * 25;
            long further = 0;
            for (int k = first + 1; k < first + 25; k++) {
                further = 2 * further + k * k % 7 % 2;
            }
            int symbol = first * first % 7 % 2;
            reads(due, x, symbol);
            due.answer("last() number " + i, x.last(), symbol == 0 ? 5 + further : 7 - further);
        }
        reads(due, x, -1);
        due.answer("waiting()", x.waiting(), 0);
    }

    /** More bits in all than can wait at once, so that the store is gone round. */
    private static void goesRound(Due due) {
        BoundedCodes x = new BoundedCodes(0);
        x.range(0, 0, 32, 1);
        x.range(1, 0, 16, 1);
        Some.feedAll(x, "1".repeat(370) + "0".repeat(30));
        for (int i = 0; i < 21; i++) {
            due.answer("read() number " + i, x.read(), 1);
            due.answer("last() number " + i, x.last(), 65535);
        }
        // 400 - 21 * 17 = 43 bits are left: 13 times 1 and 30 times 0.
        due.answer("waiting()", x.waiting(), 43);
        due.answer("read() to the end", x.read(), 1);
        due.answer("last() to the end", x.last(), 0b1111111111110000);
        due.answer("waiting() to the end", x.waiting(), 26);
        Some.feedAll(x, "1011000");
        due.answer("read() across the end", x.read(), 0);
        due.answer("last() across the end", x.last(), 0b1011000);
        due.answer("waiting() across the end", x.waiting(), 0);
    }

    /** A code of 4 bits, its 4 extra bits, and bits that begin no code: each of them stands across place 400 once. */
    private static void goesRoundAtEveryPlace(Due due) {
        for (int before = 380; before <= 400; before++) {
            BoundedCodes x = new BoundedCodes(0);
            Some.feedAll(x, "1".repeat(before));
            dropWaiting(x, before);
            x.given(8, 3);
            x.range(9, 100, -4, 4);
            Some.feedAll(x, "00101010" + "0011" + "000");
            reads(due, x, 9);
            due.answer("last() behind " + before + " bits", x.last(), 90);
            reads(due, x, -2, 8, -1);
            due.answer("last() behind " + before + " bits", x.last(), 8);
            due.answer("waiting() behind " + before + " bits", x.waiting(), 0);
        }
    }

    /** Reads away so many bits 1, most of them as extra bits. */
    private static void dropWaiting(BoundedCodes x, int bits) {
        x.range(0, 0, 32, 1);
        x.range(1, 0, 32, 1);
        int left = bits;
        while (left >= 33) {
            x.read();
            left -= 33;
        }
        x.given(0, 0);
        x.given(1, 0);
        while (left > 0) {
            x.read();
            left--;
        }
    }

    private static BoundedCodes stair(int last) {
        BoundedCodes x = new BoundedCodes(0);
        for (int symbol = 0; symbol <= last; symbol++) {
            x.given(symbol, Math.min(16, symbol + 1));
        }
        return x;
    }

    private static void readsWhenJustComplete(Due due) {
        BoundedCodes x = stair(16);
        Some.feedAll(x, "1".repeat(16) + "1".repeat(15) + "0" + "0");
        reads(due, x, 16, 15, 0, -1);
        due.answer("waiting()", x.waiting(), 0);
    }

    private static void refusesWhenJustOverFull(Due due) {
        BoundedCodes x = stair(17);
        due.refusal("read() over-full, without bits", IllegalStateException.class, () -> x.read());
        x.feed(0);
        due.refusal("read() over-full", IllegalStateException.class, () -> x.read());
        due.answer("waiting() behind it", x.waiting(), 1);
        x.given(17, 0);
        due.answer("read() not over-full any more", x.read(), 0);
    }

    private static void refusalsChangeNothing(Due due) {
        Unchanged.refused(due, "read() over-full", IllegalStateException.class, Some::busyOverFull, x -> x.read());
        Unchanged.refused(due, "read() over-full, without bits", IllegalStateException.class, () -> {
            BoundedCodes x = Some.withLengths(0, 1, 1);
            x.given(47, 1);
            return x;
        }, x -> x.read());
        Unchanged.refused(due, "read() over-full, when 400 wait", IllegalStateException.class, () -> {
            BoundedCodes x = Some.fullOfBits();
            x.given(47, 16);
            return x;
        }, x -> x.read());
    }
}
