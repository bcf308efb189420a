/** Promise 3: make. */
public final class MakeTest {
    public static void main(String[] args) {
        Due due = new Due();
        makesOrdinary(due);
        breaksTies(due);
        makesFew(due);
        makesNone(due);
        makesAgain(due);
        dropsLengthsAndRanges(due);
        keepsAllElse(due);
        isAsShortAsCanBe(due);
        bearsGreatCounts(due);
        refuses(due);
        due.end();
    }

    private static void made(Due due, int most, long[] counts, String lengths) {
        BoundedCodes x = Some.withCounts(0, counts);
        x.make(most);
        due.answer("lengths of " + java.util.Arrays.toString(counts) + " by " + most,
                Some.lengthsOf(x, counts.length), lengths);
    }

    private static void makesOrdinary(Due due) {
        long[] growing = {1, 1, 2, 3, 5, 8, 13};
        made(due, 3, growing, "3 3 3 3 3 3 2");
        made(due, 4, growing, "4 4 3 3 3 2 2");
        made(due, 5, growing, "5 5 4 3 2 2 2");
        made(due, 6, growing, "6 6 5 4 3 2 1");
        made(due, 16, growing, "6 6 5 4 3 2 1");
        made(due, 2, new long[] {1, 100, 1}, "2 1 2");
        made(due, 2, new long[] {1, 100, 1, 5}, "2 2 2 2");
    }

    /** Of one count the greatest symbol is the first of row 1, and so the longest; symbols go before pairs. */
    private static void breaksTies(Due due) {
        made(due, 2, new long[] {4, 4, 4}, "1 2 2");
        made(due, 3, new long[] {1, 1, 1, 1, 1}, "2 2 2 3 3");
        made(due, 4, new long[] {1, 1, 1, 1, 4, 4}, "3 3 3 3 2 2");
        made(due, 16, new long[] {1, 1, 2, 2}, "2 2 2 2");
        made(due, 16, new long[] {1, 1, 1, 2}, "2 2 2 2");
        made(due, 16, new long[] {2, 1, 1, 0, 2}, "2 2 2 0 2");
    }

    private static void makesFew(Due due) {
        BoundedCodes x = new BoundedCodes(0);
        due.answer("make(4) without counts", x.make(4), 0);
        due.answer("lengths(0) without counts", x.lengths(0), BoundedCodes.NONE);
        x.count(47, 9);
        for (int most = 1; most <= 16; most++) {
            due.answer("make(" + most + ") of one", x.make(most), 1);
            due.answer("length(47) alone", x.length(47), 1);
        }
        x.count(0, 1);
        due.answer("make(1) of two", x.make(1), 2);
        due.answer("length(0) of two", x.length(0), 1);
        due.answer("length(47) of two", x.length(47), 1);
        due.answer("make(16) of two", x.make(16), 2);
        due.answer("check() of two", x.check(), 0);
    }

    private static void makesNone(Due due) {
        for (int most = 1; most <= 5; most++) {
            BoundedCodes x = new BoundedCodes(0);
            x.range(40, 1000, 0, 2);
            for (int symbol = 0; symbol < 1 << most; symbol++) {
                x.count(symbol, 3);
            }
            x.count(47, 3);
            String before = Some.seen(x);
            due.answer("make(" + most + ") of one too many", x.make(most), BoundedCodes.NONE);
            due.answer("what is seen behind it", Some.seen(x), before);
            Some.feedAll(x, "00");
            due.answer("read() behind it", x.read(), 40);
            due.answer("last() behind it, by the range", x.last(), 1000);
            x.count(47, 0);
            due.answer("make(" + most + ") of as many as can be", x.make(most), 1 << most);
            due.answer("length(0)", x.length(0), most);
        }
    }

    private static void makesAgain(Due due) {
        BoundedCodes x = Some.withCounts(0, 1, 1, 2, 3, 5, 8, 13);
        due.answer("make(16)", x.make(16), 7);
        due.answer("make(3) behind make(16)", x.make(3), 7);
        due.answer("lengths by 3", Some.lengthsOf(x, 7), "3 3 3 3 3 3 2");
        x.count(0, 0);
        x.count(6, 0);
        due.answer("make(5) of less symbols", x.make(5), 5);
        due.answer("lengths of less symbols", Some.lengthsOf(x, 7), "0 4 4 3 2 1 0");
        due.answer("make(16) again", x.make(16), 5);
        due.answer("lengths again", Some.lengthsOf(x, 7), "0 4 4 3 2 1 0");
    }

    private static void dropsLengthsAndRanges(Due due) {
        BoundedCodes x = new BoundedCodes(0);
        x.given(30, 5);
        x.range(1, 500, 4, 2);
        x.range(20, 500, 4, 2);
        x.count(1, 8);
        x.count(2, 8);
        due.answer("make(7)", x.make(7), 2);
        due.answer("lengths", Some.row(x), "0 1 1");
        Some.feedAll(x, "0");
        due.answer("read() without the range", x.read(), 1);
        due.answer("last() without the range", x.last(), 1);
        x.range(1, 500, 4, 1);
        x.count(2, 0);
        due.answer("make(7) of one", x.make(7), 1);
        Some.feedAll(x, "0");
        due.answer("read() of one", x.read(), 1);
        due.answer("last() of one", x.last(), 1);
        x.count(1, 0);
        due.answer("make(7) of none", x.make(7), 0);
        due.answer("length(1) of none", x.length(1), 0);
        for (int symbol = 0; symbol < Some.SYMBOLS; symbol++) {
            BoundedCodes z = new BoundedCodes(0);
            z.range(symbol, 500, 4, 1);
            z.count(symbol, 1);
            z.make(1);
            z.feed(0);
            due.answer("read() of symbol " + symbol + " whose range went", z.read(), symbol);
            due.answer("last() of symbol " + symbol + " whose range went", z.last(), symbol);
        }
        BoundedCodes y = Some.overFull();
        y.count(5, 1);
        due.answer("make(2) of an over-full table", y.make(2), 1);
        due.answer("check() behind it", y.check(), 1);
    }

    private static void keepsAllElse(Due due) {
        BoundedCodes x = Some.withCounts(0, 5, 5);
        x.make(1);
        Some.feedAll(x, "101");
        x.read();
        x.count(0, 7);
        x.make(1);
        due.answer("waiting() behind make", x.waiting(), 2);
        due.answer("last() behind make", x.last(), 1);
        due.answer("count(0, 7) behind make", x.count(0, 7), false);
        due.answer("count(1, 5) behind make", x.count(1, 5), false);
    }

    private static void isAsShortAsCanBe(Due due) {
        long[][] counts = {
            {1, 1, 2, 3, 5, 8}, {9, 1, 1, 1, 1, 30}, {7, 7, 7, 7, 7}, {1, 2, 4, 8, 16, 32}, {100, 1, 50, 3, 3, 2},
        };
        for (long[] row : counts) {
            for (int most = 3; most <= 6; most++) {
                BoundedCodes x = Some.withCounts(0, row);
                x.make(most);
                due.answer("sum() of " + java.util.Arrays.toString(row) + " by " + most, x.sum(),
                        leastSum(row, 0, most, 1 << most));
                due.answer("check()", x.check(), 0);
            }
        }
    }

    /** Tries every length for every symbol that leaves room for the others: room in shares of 1 / 2^most. */
    private static long leastSum(long[] counts, int from, int most, int room) {
        if (from == counts.length) {
            return 0;
        }
        long least = Long.MAX_VALUE / 2;
        for (int length = 1; length <= most; length++) {
            int share = 1 << (most - length);
            if (share <= room) {
                least = Math.min(least, counts[from] * length + leastSum(counts, from + 1, most, room - share));
            }
        }
        return least;
    }

    private static void bearsGreatCounts(Due due) {
        BoundedCodes x = new BoundedCodes(0);
        for (int symbol = 0; symbol < Some.SYMBOLS; symbol++) {
            x.count(symbol, 1000000000L);
        }
        due.answer("make(16) of all", x.make(16), 48);
        due.answer("lengths", Some.row(x), "5 106 106 103 6 106 106 106 106 106 6");
        due.answer("sum()", x.sum(), (16 * 5 + 32 * 6) * 1000000000L);
    }

    private static void refuses(Due due) {
        BoundedCodes x = Some.withCounts(0, 1, 2, 3);
        x.range(9, 5, 2, 3);
        String before = Some.seen(x);
        int[] wrong = {0, 17, -1, 32, 48, Integer.MIN_VALUE, Integer.MAX_VALUE};
        for (int most : wrong) {
            due.refusal("make(" + most + ")", IllegalArgumentException.class, () -> x.make(most));
        }
        due.answer("what is seen behind refusals", Some.seen(x), before);
        due.answer("make(2) behind refusals", x.make(2), 3);
    }
}
