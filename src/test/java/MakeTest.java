import java.util.Arrays;

/** Promise 3: make, and the term MAKING. */
public final class MakeTest {
    public static void main(String[] args) {
        Due due = new Due();
        due.sentence("All lengths are made from counts");
        makesOrdinary(due);
        makesAgain(due);
        isAsShortAsCanBe(due);
        keepsAllElse(due);
        due.sentence("how many symbols have one");
        makesOfNoCounts(due);
        makesOfAllSymbols(due);
        bearsGreatCounts(due);
        due.sentence("those of symbols without a count, and all ranges, go");
        dropsLengths(due);
        dropsRanges(due);
        dropsAllOfNoCounts(due);
        mendsAnOverFullTable(due);
        due.sentence("One alone has the length 1");
        makesOfOne(due);
        due.sentence("NONE, with nothing changed, if there are more than 2^most");
        makesOfAsManyAsCanBe(due);
        makesNoneOfOneMore(due);
        makesNoneOfAllSymbols(due);
        noneChangesNothing(due);
        due.sentence("IllegalArgument: the most is not 1 .. 16");
        allowsTheLeastAndTheMost(due);
        reachesTheMost(due);
        refusesOtherMosts(due);
        due.sentence("A call that throws changes nothing");
        refusalsChangeNothing(due);
        breaksTies(due);
        due.end();
    }

    private static void made(Due due, int most, long[] counts, String lengths) {
        BoundedCodes x = Some.withCounts(0, counts);
        x.make(most);
        due.answer("lengths of " + Arrays.toString(counts) + " by " + most, Some.lengthsOf(x, counts.length), lengths);
    }

    private static void makesOrdinary(Due due) {
        long[] growing = {1, 1, 2, 3, 5, 8, 13};
        made(due, 3, growing, "3 3 3 3 3 3 2");
        made(due, 4, growing, "4 4 3 3 3 2 2");
        made(due, 5, growing, "5 5 4 3 2 2 2");
        made(due, 6, growing, "6 6 5 4 3 2 1");
        made(due, 16, growing, "6 6 5 4 3 2 1");
        made(due, 2, new long[] {1, 100, 1}, "2 1 2");
        made(due, 2, new long[] {1, 100, 1, 5}, "2 2 2 2");
    }

    private static void makesAgain(Due due) {
        BoundedCodes x = Some.withCounts(0, 1, 1, 2, 3, 5, 8, 13);
        due.answer("make(16)", x.make(16), 7);
        due.answer("make(3) behind make(16)", x.make(3), 7);
        due.answer("lengths by 3", Some.lengthsOf(x, 7), "3 3 3 3 3 3 2");
        x.count(0, 0);
        x.count(6, 0);
        due.answer("make(5) of less symbols", x.make(5), 5);
        due.answer("lengths of less symbols", Some.lengthsOf(x, 7), "0 4 4 3 2 1 0");
        due.answer("make(16) again", x.make(16), 5);
        due.answer("lengths again", Some.lengthsOf(x, 7), "0 4 4 3 2 1 0");
    }

    private static void isAsShortAsCanBe(Due due) {
        long[][] counts = {
            {1, 1, 2, 3, 5, 8}, {9, 1, 1, 1, 1, 30}, {7, 7, 7, 7, 7}, {1, 2, 4, 8, 16, 32}, {100, 1, 50, 3, 3, 2},
        };
        for (long[] row : counts) {
            for (int most = 3; most <= 6; most++) {
                BoundedCodes x = Some.withCounts(0, row);
                x.make(most);
                due.answer("sum() of " + Arrays.toString(row) + " by " + most, x.sum(),
                        leastSum(row, 0, most, 1 << most));
                due.answer("check()", x.check(), 0);
            }
        }
    }

    /** Tries every length for every symbol that leaves room for the others: room in shares of 1 / 2^most. */
    private static long leastSum(long[] counts, int from, int most, int room) {
        if (from == counts.length) {
            return 0;
        }
        long least = Long.MAX_VALUE / 2;
        for (int length = 1; length <= most; length++) {
            int share = 1 << (most - length);
            if (share <= room) {
                least = Math.min(least, counts[from] * length + leastSum(counts, from + 1, most, room - share));
            }
        }
        return least;
    }

    private static void keepsAllElse(Due due) {
        BoundedCodes x = Some.withCounts(0, 5, 5);
        x.make(1);
        Some.feedAll(x, "101");
        x.read();
        x.count(0, 7);
        x.make(1);
        due.answer("waiting() behind make", x.waiting(), 2);
        due.answer("last() behind make", x.last(), 1);
        due.answer("count(0, 7) behind make", x.count(0, 7), false);
        due.answer("count(1, 5) behind make", x.count(1, 5), false);
        due.answer("read() behind make", x.read(), 0);
    }

    private static void makesOfNoCounts(Due due) {
        for (int most = 1; most <= 16; most++) {
            BoundedCodes x = new BoundedCodes(0);
            due.answer("make(" + most + ") without counts", x.make(most), 0);
            due.answer("lengths(0) without counts", x.lengths(0), BoundedCodes.NONE);
            due.answer("check() without counts", x.check(), 1);
        }
        BoundedCodes y = Some.withCounts(0, 4, 4);
        y.count(0, 0);
        y.count(1, 0);
        due.answer("make(1) of counts that went", y.make(1), 0);
    }

    private static BoundedCodes ofAllSymbols(long count) {
        BoundedCodes x = new BoundedCodes(0);
        for (int symbol = 0; symbol < Some.SYMBOLS; symbol++) {
            x.count(symbol, count);
        }
        return x;
    }

    private static void makesOfAllSymbols(Due due) {
        BoundedCodes x = ofAllSymbols(1);
        for (int most = 6; most <= 16; most++) {
            due.answer("make(" + most + ") of all", x.make(most), 48);
            due.answer("lengths of all", Some.row(x), "5 106 106 103 6 106 106 106 106 106 6");
            due.answer("check() of all", x.check(), 0);
        }
    }

    private static void bearsGreatCounts(Due due) {
        BoundedCodes x = ofAllSymbols(1000000000L);
        due.answer("make(16) of all", x.make(16), 48);
        due.answer("lengths", Some.row(x), "5 106 106 103 6 106 106 106 106 106 6");
        due.answer("sum()", x.sum(), (16 * 5 + 32 * 6) * 1000000000L);
        long most = 1000000000L;
        made(due, 16, new long[] {most, most, most, most, most}, "2 2 2 3 3");
        made(due, 16, new long[] {most, 1, most, 1, most}, "2 3 2 3 2");
        // Pairs whose sums are beyond 32 bits stand behind all others, as the greatest.
        made(due, 3, new long[] {1, 200000000, 999999999, 333333333}, "3 3 1 2");
        made(due, 4, new long[] {333333333, 999999999, 3, 500000000, 1}, "3 1 4 2 4");
        made(due, 4, new long[] {most, 200000000, 2, 1, 1, 333333333}, "1 4 4 4 4 2");
    }

    private static void dropsLengths(Due due) {
        BoundedCodes x = new BoundedCodes(0);
        x.given(0, 5);
        x.given(30, 5);
        x.given(47, 5);
        x.count(1, 8);
        x.count(2, 8);
        due.answer("make(7)", x.make(7), 2);
        due.answer("lengths", Some.row(x), "0 1 1");
        due.answer("length(30)", x.length(30), 0);
        due.answer("length(47)", x.length(47), 0);
    }

    private static void dropsRanges(Due due) {
        for (int symbol = 0; symbol < Some.SYMBOLS; symbol++) {
            BoundedCodes x = new BoundedCodes(0);
            x.range(symbol, 500, 4, 1);
            x.count(symbol, 1);
            x.make(1);
            x.feed(0);
            due.answer("read() of symbol " + symbol + " whose range went", x.read(), symbol);
            due.answer("last() of symbol " + symbol + " whose range went", x.last(), symbol);
        }
        // The range of a symbol without a count goes too: it does not come again with a length.
        BoundedCodes y = new BoundedCodes(0);
        y.range(20, 500, 4, 2);
        y.count(1, 8);
        y.make(7);
        y.given(20, 1);
        Some.feedAll(y, "1");
        due.answer("read() of symbol 20", y.read(), 20);
        due.answer("last() of symbol 20", y.last(), 20);
    }

    private static void dropsAllOfNoCounts(Due due) {
        BoundedCodes x = new BoundedCodes(0);
        x.range(3, 500, 4, 1);
        x.given(4, 1);
        due.answer("make(7) of none", x.make(7), 0);
        due.answer("lengths(0)", x.lengths(0), BoundedCodes.NONE);
        due.answer("code(3)", x.code(3), BoundedCodes.NONE);
        due.answer("check()", x.check(), 1);
    }

    private static void mendsAnOverFullTable(Due due) {
        BoundedCodes x = Some.overFull();
        x.count(5, 1);
        due.answer("make(2) of an over-full table", x.make(2), 1);
        due.answer("check() behind it", x.check(), 1);
        due.answer("code(5) behind it", x.code(5), 0);
    }

    private static void makesOfOne(Due due) {
        for (int symbol : new int[] {0, 20, 47}) {
            for (long count : new long[] {1, 1000000000L}) {
                BoundedCodes x = new BoundedCodes(0);
                x.count(symbol, count);
                for (int most = 1; most <= 16; most++) {
                    due.answer("make(" + most + ") of symbol " + symbol, x.make(most), 1);
                    due.answer("length(" + symbol + ") alone", x.length(symbol), 1);
                    due.answer("sum() alone", x.sum(), count);
                    due.answer("check() alone", x.check(), 1);
                }
            }
        }
    }

    private static BoundedCodes ofMany(int symbols) {
        BoundedCodes x = new BoundedCodes(0);
        for (int symbol = 0; symbol < symbols; symbol++) {
            x.count(symbol, symbol + 1);
        }
        return x;
    }

    private static void makesOfAsManyAsCanBe(Due due) {
        for (int most = 1; most <= 5; most++) {
            BoundedCodes x = ofMany(1 << most);
            due.answer("make(" + most + ") of as many as can be", x.make(most), 1 << most);
            for (int symbol = 0; symbol < 1 << most; symbol++) {
                due.answer("length(" + symbol + ")", x.length(symbol), most);
            }
            due.answer("check()", x.check(), 0);
        }
    }

    private static void makesNoneOfOneMore(Due due) {
        for (int most = 1; most <= 5; most++) {
            BoundedCodes x = ofMany((1 << most) + 1);
            due.answer("make(" + most + ") of one more", x.make(most), BoundedCodes.NONE);
            due.answer("lengths(0) behind it", x.lengths(0), BoundedCodes.NONE);
            due.answer("make(" + (most + 1) + ") of as many", x.make(most + 1), (1 << most) + 1);
        }
    }

    private static void makesNoneOfAllSymbols(Due due) {
        for (int most = 1; most <= 5; most++) {
            due.answer("make(" + most + ") of all", ofAllSymbols(1).make(most), BoundedCodes.NONE);
        }
        due.answer("make(6) of all", ofAllSymbols(1).make(6), 48);
    }

    private static BoundedCodes busyWithOneMore(int most) {
        BoundedCodes x = Some.busy();
        for (int symbol = 10; symbol < 7 + (1 << most); symbol++) {
            x.count(symbol == 30 ? 46 : symbol, 2);
        }
        return x;
    }

    private static void noneChangesNothing(Due due) {
        Unchanged.by(due, "make(1) of four", "-1", Some::busy, x -> x.make(1));
        for (int most = 3; most <= 5; most++) {
            int one = most;
            due.answer("make of one more than 2^" + one, busyWithOneMore(one).make(one + 1), (1 << one) + 1);
            Unchanged.by(due, "make(" + one + ") of one more", "-1", () -> busyWithOneMore(one), x -> x.make(one));
        }
        Unchanged.by(due, "make(1) of three, over-full", "-1", () -> {
            BoundedCodes x = Some.busyOverFull();
            x.count(3, 3);
            return x;
        }, x -> x.make(1));
    }

    private static void allowsTheLeastAndTheMost(Due due) {
        due.answer("make(1)", Some.withCounts(0, 3, 9).make(1), 2);
        due.answer("make(16)", Some.withCounts(0, 3, 9).make(16), 2);
    }

    /** Each count is the sum of all before: alone, the lengths are a stair as high as there are symbols. */
    private static void reachesTheMost(Due due) {
        made(due, 16, stair(17), "16 16 15 14 13 12 11 10 9 8 7 6 5 4 3 2 1");
        made(due, 15, stair(17), "15 15 15 15 13 12 11 10 9 8 7 6 5 4 3 2 1");
        made(due, 16, stair(18), "16 16 16 16 14 13 12 11 10 9 8 7 6 5 4 3 2 1");
    }

    private static long[] stair(int symbols) {
        long[] counts = new long[symbols];
        counts[0] = 1;
        for (int symbol = 1; symbol < symbols; symbol++) {
            counts[symbol] = 1L << (symbol - 1);
        }
        return counts;
    }

    private static void refusesOtherMosts(Due due) {
        BoundedCodes x = Some.withCounts(0, 1, 2, 3);
        int[] wrong = {0, 17, -1, 18, 31, 32, 33, 48, Integer.MIN_VALUE, Integer.MAX_VALUE};
        for (int most : wrong) {
            due.refusal("make(" + most + ")", IllegalArgumentException.class, () -> x.make(most));
            due.refusal("make(" + most + ") without counts", IllegalArgumentException.class,
                    () -> new BoundedCodes(0).make(most));
        }
        due.answer("make(2) behind refusals", x.make(2), 3);
    }

    private static void refusalsChangeNothing(Due due) {
        for (int most : new int[] {0, 17, -1, Integer.MIN_VALUE, Integer.MAX_VALUE}) {
            Unchanged.refused(due, "make(" + most + ")", IllegalArgumentException.class, Some::busy,
                    x -> x.make(most));
        }
    }

    /** Where lengths depend on which of one count stands first in a row. */
    private static void breaksTies(Due due) {
        due.sentence("ROW 1: of one count the greatest symbol first");
        made(due, 2, new long[] {4, 4, 4}, "1 2 2");
        made(due, 3, new long[] {1, 1, 1, 1, 1}, "2 2 2 3 3");
        made(due, 2, new long[] {4, 0, 4, 0, 0, 4}, "1 0 2 0 0 2");
        due.sentence("an odd last one is none");
        made(due, 2, new long[] {1, 1, 5}, "2 2 1");
        made(due, 16, new long[] {1, 2, 4}, "2 2 1");
        due.sentence("of one count symbols before pairs");
        made(due, 16, new long[] {1, 1, 2, 2}, "2 2 2 2");
        made(due, 16, new long[] {1, 1, 1, 2}, "2 2 2 2");
        made(due, 16, new long[] {2, 1, 1, 0, 2}, "2 2 2 0 2");
        due.sentence("each of these as they stood");
        made(due, 4, new long[] {1, 1, 1, 1, 4, 4}, "3 3 3 3 2 2");
        made(due, 4, new long[] {1, 1, 1, 1, 1, 1}, "2 2 3 3 3 3");
        due.sentence("Of row L the first 2 n - 2 are TAKEN");
        made(due, 1, new long[] {9, 1}, "1 1");
        made(due, 16, new long[] {9, 1}, "1 1");
    }
}
