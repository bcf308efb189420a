/** Promise 13: sum. */
public final class SumTest {
    private static final long MOST = 1000000000L;

    public static void main(String[] args) {
        Due due = new Due();
        due.sentence("The sum of all counts times lengths");
        addsUp(due);
        followsChanges(due);
        addsOutermostSymbols(due);
        heedsNoExtraBits(due);
        isOfWhatWasMade(due);
        due.sentence("The sum of all counts times lengths: of nothing");
        isZeroOfNothing(due);
        isZeroOfCountsAlone(due);
        isZeroOfLengthsAlone(due);
        isZeroOfDifferentSymbols(due);
        due.sentence("The sum of all counts times lengths: of the most there can be");
        isBeyondThirtyTwoBits(due);
        isOfTheMost(due);
        isOfAnOverFullTable(due);
        due.sentence("what tells something only changes nothing");
        changesNothing(due);
        due.end();
    }

    private static void addsUp(Due due) {
        BoundedCodes x = Some.withLengths(0, 3, 5, 2);
        x.count(0, 7);
        due.answer("sum() of one", x.sum(), 21);
        x.count(1, 10);
        due.answer("sum() of two", x.sum(), 71);
        x.count(2, 100);
        due.answer("sum() of three", x.sum(), 271);
    }

    private static void followsChanges(Due due) {
        BoundedCodes x = Some.withLengths(0, 3);
        x.count(0, 7);
        x.count(0, 8);
        due.answer("sum() behind another count", x.sum(), 24);
        x.given(0, 16);
        due.answer("sum() behind another length", x.sum(), 128);
        x.range(0, 4, 4, 1);
        due.answer("sum() behind a range", x.sum(), 8);
        x.given(0, 0);
        due.answer("sum() behind no length", x.sum(), 0);
        x.given(0, 2);
        x.count(0, 0);
        due.answer("sum() behind no count", x.sum(), 0);
    }

    private static void addsOutermostSymbols(Due due) {
        BoundedCodes x = new BoundedCodes(0);
        x.count(0, 1);
        x.given(0, 1);
        due.answer("sum() of symbol 0", x.sum(), 1);
        x.count(47, 1000);
        x.given(47, 2);
        due.answer("sum() of symbols 0 and 47", x.sum(), 2001);
    }

    private static void heedsNoExtraBits(Due due) {
        BoundedCodes x = new BoundedCodes(0);
        x.count(5, 10);
        x.range(5, 100, 32, 2);
        due.answer("sum() with extra bits", x.sum(), 20);
        x.range(5, 100, -32, 2);
        due.answer("sum() with extra bits below 0", x.sum(), 20);
    }

    private static void isOfWhatWasMade(Due due) {
        BoundedCodes x = Some.withCounts(0, 1, 1, 2, 3, 5, 8, 13);
        x.make(16);
        due.answer("sum() by 16", x.sum(), 6 + 6 + 10 + 12 + 15 + 16 + 13);
        x.make(3);
        due.answer("sum() by 3", x.sum(), 3 * 20 + 2 * 13);
        due.answer("make(2)", x.make(2), BoundedCodes.NONE);
        due.answer("sum() behind NONE", x.sum(), 3 * 20 + 2 * 13);
    }

    private static void isZeroOfNothing(Due due) {
        due.answer("sum() at first", new BoundedCodes(0).sum(), 0);
        BoundedCodes x = Some.busy();
        x.clear();
        due.answer("sum() behind clear", x.sum(), 0);
    }

    private static void isZeroOfCountsAlone(Due due) {
        BoundedCodes x = new BoundedCodes(0);
        for (int symbol = 0; symbol < Some.SYMBOLS; symbol++) {
            x.count(symbol, MOST);
        }
        due.answer("sum() without lengths", x.sum(), 0);
    }

    private static void isZeroOfLengthsAlone(Due due) {
        BoundedCodes x = new BoundedCodes(0);
        for (int symbol = 0; symbol < Some.SYMBOLS; symbol++) {
            x.given(symbol, 16);
        }
        due.answer("sum() without counts", x.sum(), 0);
    }

    private static void isZeroOfDifferentSymbols(Due due) {
        BoundedCodes x = new BoundedCodes(0);
        x.count(3, 9);
        x.given(4, 5);
        due.answer("sum() of a count here and a length there", x.sum(), 0);
    }

    private static void isBeyondThirtyTwoBits(Due due) {
        BoundedCodes x = new BoundedCodes(0);
        x.count(0, MOST);
        x.given(0, 16);
        due.answer("sum() of one symbol", x.sum(), 16000000000L);
    }

    private static void isOfTheMost(Due due) {
        BoundedCodes x = new BoundedCodes(1);
        for (int symbol = 0; symbol < Some.SYMBOLS; symbol++) {
            x.count(symbol, MOST);
            x.given(symbol, 16);
        }
        due.answer("sum() of the most", x.sum(), 768000000000L);
    }

    private static void isOfAnOverFullTable(Due due) {
        BoundedCodes x = new BoundedCodes(1);
        for (int symbol = 0; symbol < Some.SYMBOLS; symbol++) {
            x.count(symbol, MOST);
            x.given(symbol, 1);
        }
        due.answer("sum() of an over-full table", x.sum(), 48000000000L);
    }

    private static void changesNothing(Due due) {
        Unchanged.by(due, "sum()", Long.toString(7 * 2 + 5 * 2 + 3 * 3), Some::busy, x -> x.sum());
        Unchanged.by(due, "sum(), over-full", Long.toString(7 + 5 * 16), Some::busyOverFull, x -> x.sum());
    }
}
