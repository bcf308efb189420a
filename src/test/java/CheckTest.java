/** Promise 8: check, and the term FILL. */
public final class CheckTest {
    private static final int COMPLETE = 0;
    private static final int INCOMPLETE = 1;
    private static final int OVER_FULL = 2;

    public static void main(String[] args) {
        Due due = new Due();
        due.sentence("OVER-FULL above 1, COMPLETE at 1, INCOMPLETE below it");
        ordinary(due);
        byASixteenthBit(due);
        ofOneLength(due);
        changesBack(due);
        due.sentence("the sum over all symbols with a length");
        ofNoLengths(due);
        ofOutermostSymbols(due);
        ofTheFullest(due);
        ofAllSymbolsJustComplete(due);
        byRangesAndMaking(due);
        due.sentence("what tells something only changes nothing");
        changesNothing(due);
        due.end();
    }

    private static void ordinary(Due due) {
        due.answer("check() of 1", Some.withLengths(0, 1).check(), INCOMPLETE);
        due.answer("check() of 1 1", Some.withLengths(0, 1, 1).check(), COMPLETE);
        due.answer("check() of 1 1 1", Some.withLengths(0, 1, 1, 1).check(), OVER_FULL);
        due.answer("check() of 2 1 3", Some.withLengths(0, 2, 1, 3).check(), INCOMPLETE);
        due.answer("check() of 2 1 3 3", Some.withLengths(0, 2, 1, 3, 3).check(), COMPLETE);
        due.answer("check() of 2 1 3 2", Some.withLengths(0, 2, 1, 3, 2).check(), OVER_FULL);
    }

    /** The least that a fill can be below 1 or above it. */
    private static void byASixteenthBit(Due due) {
        for (int rule = 0; rule < 3; rule++) {
            BoundedCodes x = new BoundedCodes(rule);
            for (int length = 1; length <= 16; length++) {
                x.given(length, length);
                due.answer("check() of 1 .. " + length, x.check(), INCOMPLETE);
            }
            x.given(17, 16);
            due.answer("check(), just complete", x.check(), COMPLETE);
            x.given(47, 16);
            due.answer("check(), just over-full", x.check(), OVER_FULL);
        }
    }

    private static void ofOneLength(Due due) {
        for (int length = 1; length <= 16; length++) {
            BoundedCodes x = new BoundedCodes(2);
            for (int n = 1; n <= Some.SYMBOLS; n++) {
                x.given(n - 1, length);
                int whole = 1 << length;
                due.answer("check() of " + n + " of length " + length, x.check(),
                        n < whole ? INCOMPLETE : n == whole ? COMPLETE : OVER_FULL);
            }
        }
    }

    private static void changesBack(Due due) {
        BoundedCodes x = Some.withLengths(0, 1, 2, 2, 16);
        due.answer("check()", x.check(), OVER_FULL);
        x.given(3, 0);
        due.answer("check() without one", x.check(), COMPLETE);
        x.given(2, 3);
        due.answer("check() with one longer", x.check(), INCOMPLETE);
        x.given(2, 1);
        due.answer("check() with one shorter", x.check(), OVER_FULL);
        x.clear();
        due.answer("check() behind clear", x.check(), INCOMPLETE);
    }

    private static void ofNoLengths(Due due) {
        due.answer("check() of a new object", new BoundedCodes(0).check(), INCOMPLETE);
        due.answer("check() of lengths 0", Some.withLengths(0, 0, 0, 0).check(), INCOMPLETE);
        due.answer("check() of counts alone", Some.withCounts(0, 1, 1, 1).check(), INCOMPLETE);
    }

    private static void ofOutermostSymbols(Due due) {
        BoundedCodes x = new BoundedCodes(0);
        x.given(47, 1);
        due.answer("check() of symbol 47", x.check(), INCOMPLETE);
        x.given(0, 1);
        due.answer("check() of symbols 0 and 47", x.check(), COMPLETE);
        x.given(46, 16);
        due.answer("check() of symbols 0, 46 and 47", x.check(), OVER_FULL);
    }

    private static void ofTheFullest(Due due) {
        BoundedCodes x = new BoundedCodes(0);
        for (int symbol = 0; symbol < Some.SYMBOLS; symbol++) {
            x.given(symbol, 1);
        }
        due.answer("check() of 24 wholes", x.check(), OVER_FULL);
    }

    private static void ofAllSymbolsJustComplete(Due due) {
        BoundedCodes x = new BoundedCodes(0);
        for (int symbol = 0; symbol < Some.SYMBOLS; symbol++) {
            x.given(symbol, symbol < 16 ? 5 : 6);
        }
        due.answer("check() of 16 fives and 32 sixes", x.check(), COMPLETE);
        x.given(47, 7);
        due.answer("check() with one longer", x.check(), INCOMPLETE);
        x.given(47, 5);
        due.answer("check() with one shorter", x.check(), OVER_FULL);
    }

    private static void byRangesAndMaking(Due due) {
        BoundedCodes x = new BoundedCodes(0);
        x.range(0, 5, 32, 1);
        due.answer("check() of one range", x.check(), INCOMPLETE);
        x.range(1, 5, -32, 1);
        due.answer("check() of two ranges", x.check(), COMPLETE);
        x.range(2, 5, 0, 16);
        due.answer("check() of three ranges", x.check(), OVER_FULL);
        x.count(9, 1);
        x.make(4);
        due.answer("check() of one made", x.check(), INCOMPLETE);
        x.count(8, 1);
        x.make(4);
        due.answer("check() of two made", x.check(), COMPLETE);
    }

    private static void changesNothing(Due due) {
        Unchanged.by(due, "check()", "1", Some::busy, x -> x.check());
        Unchanged.by(due, "check(), complete", "0", Some::fullOfBits, x -> x.check());
        Unchanged.by(due, "check(), over-full", "2", Some::busyOverFull, x -> x.check());
    }
}
