/** Promise 7: range. */
public final class RangeTest {
    public static void main(String[] args) {
        Due due = new Due();
        due.sentence("A symbol has a length and a range");
        tellsLengthAndRange(due);
        takesThePlaceOfAnother(due);
        isTheSymbolsOwn(due);
        keepsCounts(due);
        due.sentence("whether the table is not over-full then");
        tellsWhetherNotOverFull(due);
        tellsForAllSymbols(due);
        tellsRangesWhenOverFull(due);
        due.sentence("IllegalArgument: the length is not 1 .. 16");
        allowsTheLeastAndTheMostLength(due);
        refusesOtherLengths(due);
        due.sentence("IllegalArgument: the extra bits are not -32 .. 32");
        allowsTheLeastAndTheMostExtra(due);
        allowsNoExtra(due);
        refusesOtherExtras(due);
        due.sentence("a LOW number: any int");
        allowsEveryLow(due);
        due.sentence("IndexOutOfBounds: there is no such symbol (0 .. 47)");
        allowsOutermostSymbols(due);
        refusesOtherSymbols(due);
        due.sentence("Of several that a call names, the first one");
        refusesTheSymbolFirst(due);
        due.sentence("A call that throws changes nothing");
        refusalsChangeNothing(due);
        due.end();
    }

    private static void tellsLengthAndRange(Due due) {
        BoundedCodes x = new BoundedCodes(0);
        x.range(5, 20, 2, 3);
        due.answer("length(5)", x.length(5), 3);
        Some.feedAll(x, "00010");
        due.answer("read()", x.read(), 5);
        due.answer("last()", x.last(), 22);
    }

    private static void takesThePlaceOfAnother(Due due) {
        BoundedCodes x = new BoundedCodes(0);
        x.given(5, 4);
        x.range(5, 10, 1, 2);
        x.range(5, 20, -2, 1);
        Some.feedAll(x, "011");
        due.answer("read()", x.read(), 5);
        due.answer("last()", x.last(), 17);
        due.answer("waiting()", x.waiting(), 0);
    }

    private static void isTheSymbolsOwn(Due due) {
        BoundedCodes x = new BoundedCodes(0);
        for (int symbol = 0; symbol < 16; symbol++) {
            x.range(symbol, 1000 * symbol, symbol % 2 == 0 ? 1 : -1, 4);
        }
        for (int symbol = 0; symbol < 16; symbol++) {
            for (int i = 3; i >= 0; i--) {
                x.feed(symbol >> i & 1);
            }
            x.feed(1);
            due.answer("read()", x.read(), symbol);
            due.answer("last() of symbol " + symbol, x.last(), 1000 * symbol + (symbol % 2 == 0 ? 1 : -1));
        }
    }

    private static void keepsCounts(Due due) {
        BoundedCodes x = new BoundedCodes(0);
        x.count(3, 9);
        x.range(3, 5, 20, 4);
        due.answer("sum(), without the extra bits", x.sum(), 36);
        due.answer("count(3, 9)", x.count(3, 9), false);
    }

    private static void tellsWhetherNotOverFull(Due due) {
        BoundedCodes x = new BoundedCodes(0);
        due.answer("range(0, 1, 0, 1)", x.range(0, 1, 0, 1), true);
        due.answer("range(47, 1, 0, 1), just complete", x.range(47, 1, 0, 1), true);
        due.answer("range(3, 1, 0, 16), just over-full", x.range(3, 1, 0, 16), false);
        due.answer("length(3) is told all the same", x.length(3), 16);
        due.answer("range(3, 1, 0, 15), more so", x.range(3, 1, 0, 15), false);
        due.answer("range(0, 1, 0, 2)", x.range(0, 1, 0, 2), true);
        due.answer("length(0)", x.length(0), 2);
    }

    private static void tellsForAllSymbols(Due due) {
        for (int length = 1; length <= 16; length++) {
            BoundedCodes x = new BoundedCodes(1);
            for (int symbol = 0; symbol < Some.SYMBOLS; symbol++) {
                due.answer("range(" + symbol + ", 1, 2, " + length + ")", x.range(symbol, 1, 2, length),
                        symbol < 1 << length);
            }
        }
    }

    private static void tellsRangesWhenOverFull(Due due) {
        BoundedCodes x = Some.overFull();
        due.answer("range(1, 100, 2, 1), over-full", x.range(1, 100, 2, 1), false);
        x.given(0, 0);
        Some.feedAll(x, "011");
        due.answer("read()", x.read(), 1);
        due.answer("last() by a range that was told then", x.last(), 103);
    }

    private static void allowsTheLeastAndTheMostLength(Due due) {
        BoundedCodes x = new BoundedCodes(0);
        due.answer("range(5, 0, 0, 16)", x.range(5, 0, 0, 16), true);
        due.answer("length(5)", x.length(5), 16);
        due.answer("range(5, 0, 0, 1)", x.range(5, 0, 0, 1), true);
        due.answer("length(5)", x.length(5), 1);
    }

    private static void refusesOtherLengths(Due due) {
        BoundedCodes x = new BoundedCodes(0);
        for (int length : new int[] {0, 17, -1, 18, 32, 33, Integer.MIN_VALUE, Integer.MAX_VALUE}) {
            due.refusal("range(0, 0, 0, " + length + ")", IllegalArgumentException.class,
                    () -> x.range(0, 0, 0, length));
            due.refusal("range(47, 5, 32, " + length + ")", IllegalArgumentException.class,
                    () -> x.range(47, 5, 32, length));
        }
    }

    private static void edge(Due due, int low, int extra, String further, long value) {
        BoundedCodes x = new BoundedCodes(0);
        due.answer("range(47, " + low + ", " + extra + ", 16)", x.range(47, low, extra, 16), true);
        Some.feedAll(x, "0".repeat(16) + further);
        due.answer("read()", x.read(), 47);
        due.answer("last() of " + low + " and " + extra + " bits " + further, x.last(), value);
        due.answer("waiting()", x.waiting(), 0);
    }

    private static void allowsTheLeastAndTheMostExtra(Due due) {
        edge(due, 0, 32, "1".repeat(32), 4294967295L);
        edge(due, 0, -32, "1".repeat(32), -4294967295L);
        edge(due, 0, 31, "1".repeat(31), 2147483647L);
        edge(due, 0, -31, "1".repeat(31), -2147483647L);
    }

    private static void allowsNoExtra(Due due) {
        edge(due, -7, 0, "", -7);
        edge(due, 100, 1, "1", 101);
        edge(due, 100, -1, "1", 99);
    }

    private static void refusesOtherExtras(Due due) {
        BoundedCodes x = new BoundedCodes(0);
        for (int extra : new int[] {33, -33, 34, -34, 64, -64, Integer.MIN_VALUE, Integer.MAX_VALUE}) {
            due.refusal("range(0, 0, " + extra + ", 1)", IllegalArgumentException.class,
                    () -> x.range(0, 0, extra, 1));
            due.refusal("range(47, 5, " + extra + ", 16)", IllegalArgumentException.class,
                    () -> x.range(47, 5, extra, 16));
        }
    }

    private static void allowsEveryLow(Due due) {
        edge(due, Integer.MAX_VALUE, 0, "", Integer.MAX_VALUE);
        edge(due, Integer.MIN_VALUE, 0, "", Integer.MIN_VALUE);
        edge(due, Integer.MAX_VALUE, 1, "1", 2147483648L);
        edge(due, Integer.MIN_VALUE, -1, "1", -2147483649L);
        edge(due, Integer.MAX_VALUE, 32, "1".repeat(32), 2147483647L + 4294967295L);
        edge(due, Integer.MIN_VALUE, -32, "1".repeat(32), -2147483648L - 4294967295L);
        edge(due, Integer.MIN_VALUE, 32, "1" + "0".repeat(31), 0);
        edge(due, Integer.MAX_VALUE, -32, "0".repeat(31) + "1", 2147483646);
        edge(due, -1, 32, "0".repeat(32), -1);
    }

    private static void allowsOutermostSymbols(Due due) {
        BoundedCodes x = new BoundedCodes(0);
        due.answer("range(0, 10, 1, 1)", x.range(0, 10, 1, 1), true);
        due.answer("range(47, 20, 1, 1)", x.range(47, 20, 1, 1), true);
        Some.feedAll(x, "0110");
        due.answer("read()", x.read(), 0);
        due.answer("last()", x.last(), 11);
        due.answer("read()", x.read(), 47);
        due.answer("last()", x.last(), 20);
    }

    private static void refusesOtherSymbols(Due due) {
        BoundedCodes x = new BoundedCodes(0);
        for (int symbol : Some.NO_SYMBOLS) {
            due.refusal("range(" + symbol + ", 0, 0, 1)", IndexOutOfBoundsException.class,
                    () -> x.range(symbol, 0, 0, 1));
        }
    }

    private static void refusesTheSymbolFirst(Due due) {
        BoundedCodes x = new BoundedCodes(0);
        for (int symbol : Some.NO_SYMBOLS) {
            due.refusal("range(" + symbol + ", 0, 0, 0)", IndexOutOfBoundsException.class,
                    () -> x.range(symbol, 0, 0, 0));
            due.refusal("range(" + symbol + ", 0, 33, 1)", IndexOutOfBoundsException.class,
                    () -> x.range(symbol, 0, 33, 1));
            due.refusal("range(" + symbol + ", 0, -33, 17)", IndexOutOfBoundsException.class,
                    () -> x.range(symbol, 0, -33, 17));
        }
    }

    private static void refusalsChangeNothing(Due due) {
        Unchanged.refused(due, "range(-1, 8, 1, 1)", IndexOutOfBoundsException.class, Some::busy,
                x -> x.range(-1, 8, 1, 1));
        Unchanged.refused(due, "range(48, 8, 1, 1)", IndexOutOfBoundsException.class, Some::busy,
                x -> x.range(48, 8, 1, 1));
        for (int symbol : new int[] {0, 1, 9, 47}) {
            wrongOf(due, symbol, 1, 0);
            wrongOf(due, symbol, 1, 17);
            wrongOf(due, symbol, 33, 1);
            wrongOf(due, symbol, -33, 1);
            wrongOf(due, symbol, 33, 17);
        }
    }

    private static void wrongOf(Due due, int symbol, int extra, int length) {
        String call = "range(" + symbol + ", 8, " + extra + ", " + length + ")";
        Unchanged.refused(due, call, IllegalArgumentException.class, Some::busy,
                x -> x.range(symbol, 8, extra, length));
        Unchanged.refused(due, call + ", over-full", IllegalArgumentException.class, Some::busyOverFull,
                x -> x.range(symbol, 8, extra, length));
    }
}
