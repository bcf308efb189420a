/** Promise 15: clear. */
public final class ClearTest {
    public static void main(String[] args) {
        Due due = new Due();
        for (int rule = 0; rule < 3; rule++) {
            takesAllAway(due, rule);
            keepsTheRule(due, rule);
        }
        due.end();
    }

    private static BoundedCodes cleared(int rule) {
        BoundedCodes x = Some.withCounts(rule, 1, 2, 3, 4);
        x.make(4);
        x.range(3, 100, 2, 2);
        x.range(30, 100, 2, 16);
        Some.feedAll(x, "0000000000001111111111");
        x.read();
        x.clear();
        return x;
    }

    private static void takesAllAway(Due due, int rule) {
        due.answer("what is seen behind clear", Some.seen(cleared(rule)), Some.seen(new BoundedCodes(rule)));
        BoundedCodes x = cleared(rule);
        due.answer("lengths(0)", x.lengths(0), BoundedCodes.NONE);
        due.refusal("last()", IllegalArgumentException.class, () -> x.last());
        due.answer("waiting()", x.waiting(), 0);
        due.answer("make(1)", x.make(1), 0);
        for (int symbol = 0; symbol < Some.SYMBOLS; symbol++) {
            due.answer("count(" + symbol + ", 0)", x.count(symbol, 0), false);
        }
        x.clear();
        due.answer("what is seen behind clear again", Some.seen(x), Some.seen(new BoundedCodes(rule)));
        BoundedCodes y = Some.overFull();
        y.clear();
        due.answer("check() of what was over-full", y.check(), 1);
        due.answer("read() of what was over-full", y.read(), BoundedCodes.WAITS);
    }

    private static void keepsTheRule(Due due, int rule) {
        String[] codes = {"0 100 101", "1 011 010", "1 000 001"};
        BoundedCodes x = cleared(rule);
        x.given(0, 1);
        x.given(1, 3);
        x.given(2, 3);
        due.answer("codes by rule " + rule, Some.codesOf(x, 3), codes[rule]);
        Some.feedAll(x, codes[rule].substring(0, 1));
        due.answer("read()", x.read(), 0);
        due.answer("last()", x.last(), 0);
    }
}
