/** Promise 2: count. */
public final class CountTest {
    private static final long MOST = 1000000000L;

    public static void main(String[] args) {
        Due due = new Due();
        due.sentence("A symbol's count: whether it was another one");
        tellsWhetherAnother(due);
        differsByOne(due);
        holdsEverySymbol(due);
        changesNoLength(due);
        due.sentence("IllegalArgument: it is not 0 .. 1000000000");
        allowsTheLeastAndTheMost(due);
        refusesOneBelowAndOneAbove(due);
        refusesWhatIsFarOff(due);
        due.sentence("IndexOutOfBounds: there is no such symbol (0 .. 47)");
        allowsOutermostSymbols(due);
        refusesOtherSymbols(due);
        due.sentence("Of several that a call names, the first one");
        refusesTheSymbolFirst(due);
        due.sentence("A call that throws changes nothing");
        refusalsChangeNothing(due);
        due.end();
    }

    private static void tellsWhetherAnother(Due due) {
        BoundedCodes x = new BoundedCodes(0);
        due.answer("count(0, 0)", x.count(0, 0), false);
        due.answer("count(0, 5)", x.count(0, 5), true);
        due.answer("count(0, 5) again", x.count(0, 5), false);
        due.answer("count(1, 5) of another symbol", x.count(1, 5), true);
        due.answer("count(0, 0) behind it", x.count(0, 0), true);
        due.answer("make(1)", x.make(1), 1);
    }

    private static void differsByOne(Due due) {
        BoundedCodes x = new BoundedCodes(0);
        x.count(0, MOST);
        due.answer("count(0, one less)", x.count(0, MOST - 1), true);
        due.answer("count(0, one more)", x.count(0, MOST), true);
        due.answer("count(0, 0)", x.count(0, 0), true);
        due.answer("count(0, 1)", x.count(0, 1), true);
    }

    private static void holdsEverySymbol(Due due) {
        BoundedCodes x = new BoundedCodes(0);
        for (int symbol = 0; symbol < Some.SYMBOLS; symbol++) {
            due.answer("count(" + symbol + ", " + (symbol + 1) + ")", x.count(symbol, symbol + 1), true);
        }
        for (int symbol = 0; symbol < Some.SYMBOLS; symbol++) {
            due.answer("count(" + symbol + ", " + (symbol + 1) + ") again", x.count(symbol, symbol + 1), false);
        }
        due.answer("make(16) of all", x.make(16), 48);
    }

    private static void changesNoLength(Due due) {
        BoundedCodes x = Some.withLengths(0, 1, 2, 3);
        x.count(0, 10);
        x.count(1, 0);
        x.count(7, 10);
        due.answer("lengths", Some.lengthsOf(x, 8), "1 2 3 0 0 0 0 0");
        due.answer("sum()", x.sum(), 10);
    }

    private static void allowsTheLeastAndTheMost(Due due) {
        BoundedCodes x = new BoundedCodes(0);
        due.answer("count(0, 1000000000)", x.count(0, MOST), true);
        due.answer("count(0, 1000000000) again", x.count(0, MOST), false);
        x.given(0, 1);
        due.answer("sum() of the most", x.sum(), MOST);
        due.answer("count(0, 0)", x.count(0, 0), true);
        due.answer("count(0, 0) again", x.count(0, 0), false);
        due.answer("sum() of the least", x.sum(), 0);
    }

    private static void refusesOneBelowAndOneAbove(Due due) {
        BoundedCodes x = new BoundedCodes(0);
        due.refusal("count(0, -1)", IllegalArgumentException.class, () -> x.count(0, -1));
        due.refusal("count(0, 1000000001)", IllegalArgumentException.class, () -> x.count(0, MOST + 1));
    }

    /** Some of these would be allowed if they were cut to 32 bits. */
    private static void refusesWhatIsFarOff(Due due) {
        BoundedCodes x = new BoundedCodes(0);
        long[] wrong = {
            Long.MIN_VALUE, Long.MAX_VALUE, 1L << 32, (1L << 32) + 5, -(1L << 32), 5 - (1L << 32), Integer.MIN_VALUE,
            Integer.MAX_VALUE, -MOST,
        };
        for (long n : wrong) {
            due.refusal("count(0, " + n + ")", IllegalArgumentException.class, () -> x.count(0, n));
        }
    }

    private static void allowsOutermostSymbols(Due due) {
        BoundedCodes x = new BoundedCodes(0);
        due.answer("count(0, 3)", x.count(0, 3), true);
        due.answer("count(47, 3)", x.count(47, 3), true);
        due.answer("make(1) of both", x.make(1), 2);
        due.answer("length(0)", x.length(0), 1);
        due.answer("length(47)", x.length(47), 1);
    }

    private static void refusesOtherSymbols(Due due) {
        BoundedCodes x = new BoundedCodes(0);
        for (int symbol : Some.NO_SYMBOLS) {
            due.refusal("count(" + symbol + ", 1)", IndexOutOfBoundsException.class, () -> x.count(symbol, 1));
        }
    }

    private static void refusesTheSymbolFirst(Due due) {
        BoundedCodes x = new BoundedCodes(0);
        for (int symbol : Some.NO_SYMBOLS) {
            due.refusal("count(" + symbol + ", -1)", IndexOutOfBoundsException.class, () -> x.count(symbol, -1));
            due.refusal("count(" + symbol + ", 1000000001)", IndexOutOfBoundsException.class,
                    () -> x.count(symbol, MOST + 1));
        }
    }

    private static void refusalsChangeNothing(Due due) {
        Unchanged.refused(due, "count(-1, 9)", IndexOutOfBoundsException.class, Some::busy, x -> x.count(-1, 9));
        Unchanged.refused(due, "count(48, 9)", IndexOutOfBoundsException.class, Some::busy, x -> x.count(48, 9));
        for (int symbol : new int[] {0, 1, 9, 47}) {
            Unchanged.refused(due, "count(" + symbol + ", -1)", IllegalArgumentException.class, Some::busy,
                    x -> x.count(symbol, -1));
            Unchanged.refused(due, "count(" + symbol + ", 1000000001)", IllegalArgumentException.class, Some::busy,
                    x -> x.count(symbol, MOST + 1));
        }
    }
}
