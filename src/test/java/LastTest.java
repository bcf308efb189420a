/** Promise 11: last. */
public final class LastTest {
    public static void main(String[] args) {
        Due due = new Due();
        due.sentence("The value of the symbol read last: the symbol itself without a range");
        tellsSymbols(due);
        tellsTheLastOfSeveral(due);
        due.sentence("else its low number, and what the further bits tell, the first one the highest");
        tellsValues(due);
        tellsOutermostValues(due);
        due.sentence("(less that, for extra bits below 0)");
        tellsValuesBelow(due);
        tellsOutermostValuesBelow(due);
        due.sentence("NO_CODE and WAITS read no symbol");
        keepsTheValue(due);
        due.sentence("the value is that of the reading");
        keepsTheValueOfTheReading(due);
        due.sentence("IllegalArgument: none was read");
        refusesWhenNew(due);
        refusesBehindReadsOfNone(due);
        refusesBehindClear(due);
        answersBehindSymbolZero(due);
        due.sentence("A call that throws changes nothing");
        refusalsChangeNothing(due);
        due.sentence("what tells something only changes nothing");
        changesNothing(due);
        due.end();
    }

    private static void tellsSymbols(Due due) {
        BoundedCodes x = new BoundedCodes(0);
        for (int symbol = 0; symbol < Some.SYMBOLS; symbol++) {
            x.given(symbol, 6);
        }
        for (int symbol = 0; symbol < Some.SYMBOLS; symbol++) {
            for (int i = 5; i >= 0; i--) {
                x.feed(symbol >> i & 1);
            }
            x.read();
            due.answer("last() of symbol " + symbol, x.last(), symbol);
        }
    }

    private static void tellsTheLastOfSeveral(Due due) {
        BoundedCodes x = Some.withLengths(0, 1, 2);
        x.range(2, 70, 1, 2);
        Some.feedAll(x, "0" + "111" + "10" + "0");
        x.read();
        due.answer("last() of the first", x.last(), 0);
        x.read();
        due.answer("last() of the second, with a range", x.last(), 71);
        x.read();
        due.answer("last() of the third", x.last(), 1);
        x.read();
        due.answer("last() of the fourth", x.last(), 0);
        due.answer("last() again", x.last(), 0);
    }

    private static void value(Due due, int low, int extra, String further, long value) {
        BoundedCodes x = new BoundedCodes(0);
        x.range(9, low, extra, 1);
        Some.feedAll(x, "0" + further);
        due.answer("read()", x.read(), 9);
        due.answer("last() of " + low + " and " + extra + " bits " + further, x.last(), value);
        due.answer("last() again", x.last(), value);
    }

    private static void tellsValues(Due due) {
        value(due, 100, 3, "110", 106);
        value(due, 100, 3, "011", 103);
        value(due, 100, 3, "000", 100);
        value(due, 100, 0, "", 100);
        value(due, 0, 0, "", 0);
        value(due, -5, 1, "1", -4);
        value(due, -5, 1, "0", -5);
    }

    private static void tellsOutermostValues(Due due) {
        value(due, Integer.MAX_VALUE, 32, "1".repeat(32), 6442450942L);
        value(due, Integer.MAX_VALUE, 32, "0".repeat(32), 2147483647L);
        value(due, Integer.MIN_VALUE, 32, "0".repeat(32), -2147483648L);
        value(due, Integer.MIN_VALUE, 32, "1".repeat(32), 2147483647L);
        value(due, 0, 32, "1" + "0".repeat(31), 2147483648L);
        value(due, 0, 32, "0".repeat(31) + "1", 1);
        value(due, Integer.MAX_VALUE, 1, "1", 2147483648L);
    }

    private static void tellsValuesBelow(Due due) {
        value(due, 100, -3, "110", 94);
        value(due, 100, -3, "011", 97);
        value(due, 100, -3, "000", 100);
        value(due, -5, -1, "1", -6);
        value(due, -5, -1, "0", -5);
    }

    private static void tellsOutermostValuesBelow(Due due) {
        value(due, Integer.MIN_VALUE, -32, "1".repeat(32), -6442450943L);
        value(due, Integer.MIN_VALUE, -32, "0".repeat(32), -2147483648L);
        value(due, Integer.MAX_VALUE, -32, "0".repeat(32), 2147483647L);
        value(due, Integer.MAX_VALUE, -32, "1".repeat(32), -2147483648L);
        value(due, 0, -32, "1" + "0".repeat(31), -2147483648L);
        value(due, Integer.MIN_VALUE, -1, "1", -2147483649L);
    }

    private static BoundedCodes withOneRead() {
        BoundedCodes x = new BoundedCodes(0);
        x.range(9, 100, 3, 1);
        Some.feedAll(x, "0110");
        x.read();
        return x;
    }

    private static void keepsTheValue(Due due) {
        BoundedCodes x = withOneRead();
        x.feed(1);
        due.answer("read() without a code", x.read(), BoundedCodes.NO_CODE);
        due.answer("last() behind NO_CODE", x.last(), 106);
        due.answer("read() without bits", x.read(), BoundedCodes.WAITS);
        due.answer("last() behind WAITS without bits", x.last(), 106);
        Some.feedAll(x, "000");
        due.answer("read() with extra bits lacking", x.read(), BoundedCodes.WAITS);
        due.answer("last() behind WAITS for extra bits", x.last(), 106);
        x.given(8, 1);
        x.given(7, 1);
        due.refusal("read() over-full", IllegalStateException.class, () -> x.read());
        due.answer("last() behind a refusal, over-full", x.last(), 106);
    }

    private static void keepsTheValueOfTheReading(Due due) {
        BoundedCodes x = withOneRead();
        x.range(9, 7, -1, 2);
        due.answer("last() behind another range", x.last(), 106);
        x.given(9, 1);
        due.answer("last() behind no range", x.last(), 106);
        x.given(9, 0);
        due.answer("last() behind no length", x.last(), 106);
        x.make(4);
        due.answer("last() behind make", x.last(), 106);
        BoundedCodes y = Some.withLengths(0, 1, 1);
        y.feed(1);
        y.read();
        y.range(1, 50, 2, 1);
        due.answer("last() of a symbol that has a range since", y.last(), 1);
    }

    private static void refusesWhenNew(Due due) {
        for (int rule = 0; rule < 3; rule++) {
            BoundedCodes x = new BoundedCodes(rule);
            due.refusal("last() of a new object", IllegalArgumentException.class, () -> x.last());
            x.range(0, 5, 1, 1);
            Some.feedAll(x, "010");
            due.refusal("last() before the first read", IllegalArgumentException.class, () -> x.last());
        }
    }

    private static void refusesBehindReadsOfNone(Due due) {
        BoundedCodes x = new BoundedCodes(0);
        x.read();
        due.refusal("last() behind WAITS alone", IllegalArgumentException.class, () -> x.last());
        x.range(0, 5, 2, 1);
        Some.feedAll(x, "1");
        x.read();
        due.refusal("last() behind NO_CODE alone", IllegalArgumentException.class, () -> x.last());
        Some.feedAll(x, "01");
        x.read();
        due.refusal("last() behind WAITS for extra bits", IllegalArgumentException.class, () -> x.last());
        x.feed(1);
        x.read();
        due.answer("last() behind a symbol", x.last(), 8);
    }

    private static void refusesBehindClear(Due due) {
        BoundedCodes x = withOneRead();
        x.clear();
        due.refusal("last() behind clear", IllegalArgumentException.class, () -> x.last());
        x.given(3, 1);
        x.feed(0);
        x.read();
        due.answer("last() of one read since", x.last(), 3);
    }

    /** A value of 0 or of -1 is none the less a value. */
    private static void answersBehindSymbolZero(Due due) {
        BoundedCodes x = Some.withLengths(0, 1);
        x.feed(0);
        x.read();
        due.answer("last() of symbol 0", x.last(), 0);
        value(due, 0, 0, "", 0);
        value(due, -1, 0, "", -1);
        value(due, 1, -1, "1", 0);
    }

    private static void refusalsChangeNothing(Due due) {
        Unchanged.refused(due, "last() of a new object", IllegalArgumentException.class, () -> new BoundedCodes(0),
                x -> x.last());
        Unchanged.refused(due, "last() when 400 wait", IllegalArgumentException.class, Some::fullOfBits,
                x -> x.last());
    }

    private static void changesNothing(Due due) {
        Unchanged.by(due, "last()", "103", Some::busy, x -> x.last());
        Unchanged.by(due, "last(), over-full", "103", Some::busyOverFull, x -> x.last());
    }
}
