/** Promise 6: given. */
public final class GivenTest {
    public static void main(String[] args) {
        Due due = new Due();
        due.sentence("A symbol has a length (0 for none)");
        tellsLengths(due);
        takesLengthsAway(due);
        keepsCounts(due);
        due.sentence("and no range");
        takesRangeAway(due);
        takesRangeAwayWithTheLength(due);
        takesRangeAwayWhenOverFull(due);
        due.sentence("whether the table is not over-full then");
        tellsWhetherNotOverFull(due);
        staysOverFull(due);
        tellsForAllSymbols(due);
        due.sentence("IllegalArgument: the length is not 0 .. 16");
        allowsTheLeastAndTheMost(due);
        refusesOtherLengths(due);
        due.sentence("IndexOutOfBounds: there is no such symbol (0 .. 47)");
        allowsOutermostSymbols(due);
        refusesOtherSymbols(due);
        due.sentence("Of several that a call names, the first one");
        refusesTheSymbolFirst(due);
        due.sentence("A call that throws changes nothing");
        refusalsChangeNothing(due);
        due.end();
    }

    private static void tellsLengths(Due due) {
        BoundedCodes x = new BoundedCodes(0);
        x.given(3, 4);
        due.answer("length(3)", x.length(3), 4);
        x.given(3, 9);
        due.answer("length(3), another one", x.length(3), 9);
        due.answer("length(2)", x.length(2), 0);
        due.answer("length(4)", x.length(4), 0);
    }

    private static void takesLengthsAway(Due due) {
        BoundedCodes x = Some.withLengths(0, 1, 2, 2);
        due.answer("given(1, 0)", x.given(1, 0), true);
        due.answer("length(1)", x.length(1), 0);
        due.answer("code(1)", x.code(1), BoundedCodes.NONE);
        due.answer("code(2)", x.code(2), 2);
        due.answer("given(1, 0) again", x.given(1, 0), true);
        due.answer("check()", x.check(), 1);
    }

    private static void keepsCounts(Due due) {
        BoundedCodes x = new BoundedCodes(0);
        x.count(3, 9);
        x.given(3, 4);
        due.answer("sum()", x.sum(), 36);
        x.given(3, 0);
        due.answer("count(3, 9)", x.count(3, 9), false);
    }

    private static void takesRangeAway(Due due) {
        BoundedCodes x = new BoundedCodes(0);
        x.range(6, 100, 3, 1);
        x.range(7, 100, 3, 2);
        due.answer("given(6, 1), as long as before", x.given(6, 1), true);
        Some.feedAll(x, "0");
        due.answer("read() of a symbol without a range", x.read(), 6);
        due.answer("last() of a symbol without a range", x.last(), 6);
        Some.feedAll(x, "10001");
        due.answer("read() of the other one", x.read(), 7);
        due.answer("last() of the other one", x.last(), 101);
    }

    private static void takesRangeAwayWithTheLength(Due due) {
        BoundedCodes x = new BoundedCodes(0);
        x.range(47, 100, -3, 1);
        x.given(47, 0);
        x.given(47, 1);
        Some.feedAll(x, "0");
        due.answer("read() of a symbol whose length went and came", x.read(), 47);
        due.answer("last() of a symbol whose length went and came", x.last(), 47);
    }

    private static void takesRangeAwayWhenOverFull(Due due) {
        BoundedCodes x = Some.overFull();
        x.range(1, 100, 3, 1);
        due.answer("given(1, 1), over-full", x.given(1, 1), false);
        x.given(0, 0);
        Some.feedAll(x, "0");
        due.answer("read() of a symbol whose range went then", x.read(), 1);
        due.answer("last() of a symbol whose range went then", x.last(), 1);
    }

    private static void tellsWhetherNotOverFull(Due due) {
        BoundedCodes x = new BoundedCodes(0);
        due.answer("given(0, 1)", x.given(0, 1), true);
        due.answer("given(1, 1), just complete", x.given(1, 1), true);
        due.answer("given(2, 16), just over-full", x.given(2, 16), false);
        due.answer("length(2) is told all the same", x.length(2), 16);
        due.answer("check()", x.check(), 2);
        due.answer("given(1, 2)", x.given(1, 2), true);
        due.answer("given(1, 1), over-full again", x.given(1, 1), false);
        due.answer("given(2, 0), complete again", x.given(2, 0), true);
        due.answer("given(1, 0)", x.given(1, 0), true);
        due.answer("lengths", Some.row(x), "1");
    }

    private static void staysOverFull(Due due) {
        BoundedCodes x = Some.withLengths(0, 1, 1, 1, 1);
        due.answer("given(9, 0), as before", x.given(9, 0), false);
        due.answer("given(3, 2), less so", x.given(3, 2), false);
        due.answer("given(3, 0), less so", x.given(3, 0), false);
        due.answer("given(2, 16), less so", x.given(2, 16), false);
        due.answer("given(2, 0), no more", x.given(2, 0), true);
    }

    private static void tellsForAllSymbols(Due due) {
        for (int length = 0; length <= 16; length++) {
            BoundedCodes x = new BoundedCodes(2);
            for (int symbol = 0; symbol < Some.SYMBOLS; symbol++) {
                due.answer("given(" + symbol + ", " + length + ")", x.given(symbol, length),
                        length == 0 || symbol < 1 << length);
            }
        }
    }

    private static void allowsTheLeastAndTheMost(Due due) {
        BoundedCodes x = new BoundedCodes(0);
        due.answer("given(5, 16)", x.given(5, 16), true);
        due.answer("length(5)", x.length(5), 16);
        due.answer("given(5, 1)", x.given(5, 1), true);
        due.answer("length(5)", x.length(5), 1);
        due.answer("given(5, 0)", x.given(5, 0), true);
        due.answer("length(5)", x.length(5), 0);
    }

    private static void refusesOtherLengths(Due due) {
        BoundedCodes x = new BoundedCodes(0);
        for (int length : new int[] {-1, 17, 18, -16, 32, 33, Integer.MIN_VALUE, Integer.MAX_VALUE}) {
            due.refusal("given(0, " + length + ")", IllegalArgumentException.class, () -> x.given(0, length));
            due.refusal("given(47, " + length + ")", IllegalArgumentException.class, () -> x.given(47, length));
        }
    }

    private static void allowsOutermostSymbols(Due due) {
        BoundedCodes x = new BoundedCodes(0);
        due.answer("given(0, 3)", x.given(0, 3), true);
        due.answer("given(47, 4)", x.given(47, 4), true);
        due.answer("length(0)", x.length(0), 3);
        due.answer("length(47)", x.length(47), 4);
    }

    private static void refusesOtherSymbols(Due due) {
        BoundedCodes x = new BoundedCodes(0);
        for (int symbol : Some.NO_SYMBOLS) {
            due.refusal("given(" + symbol + ", 1)", IndexOutOfBoundsException.class, () -> x.given(symbol, 1));
        }
    }

    private static void refusesTheSymbolFirst(Due due) {
        BoundedCodes x = new BoundedCodes(0);
        for (int symbol : Some.NO_SYMBOLS) {
            due.refusal("given(" + symbol + ", 17)", IndexOutOfBoundsException.class, () -> x.given(symbol, 17));
            due.refusal("given(" + symbol + ", -1)", IndexOutOfBoundsException.class, () -> x.given(symbol, -1));
        }
    }

    private static void refusalsChangeNothing(Due due) {
        Unchanged.refused(due, "given(-1, 1)", IndexOutOfBoundsException.class, Some::busy, x -> x.given(-1, 1));
        Unchanged.refused(due, "given(48, 1)", IndexOutOfBoundsException.class, Some::busy, x -> x.given(48, 1));
        for (int symbol : new int[] {0, 1, 9, 47}) {
            Unchanged.refused(due, "given(" + symbol + ", -1)", IllegalArgumentException.class, Some::busy,
                    x -> x.given(symbol, -1));
            Unchanged.refused(due, "given(" + symbol + ", 17)", IllegalArgumentException.class, Some::busy,
                    x -> x.given(symbol, 17));
            Unchanged.refused(due, "given(" + symbol + ", 17), over-full", IllegalArgumentException.class,
                    Some::busyOverFull, x -> x.given(symbol, 17));
        }
    }
}
