/** Promise 1: A new object. */
public final class NewObjectTest {
    public static void main(String[] args) {
        Due due = new Due();
        isEmpty(due);
        takesRuleByThree(due);
        objectsAreApart(due);
        due.end();
    }

    private static void isEmpty(Due due) {
        BoundedCodes x = new BoundedCodes(0);
        for (int symbol = 0; symbol < Some.SYMBOLS; symbol++) {
            due.answer("length(" + symbol + ")", x.length(symbol), 0);
            due.answer("code(" + symbol + ")", x.code(symbol), BoundedCodes.NONE);
        }
        due.answer("sum()", x.sum(), 0);
        due.answer("waiting()", x.waiting(), 0);
        due.answer("check()", x.check(), 1);
        due.answer("lengths(0)", x.lengths(0), BoundedCodes.NONE);
        due.answer("read()", x.read(), BoundedCodes.WAITS);
        due.refusal("last()", IllegalArgumentException.class, () -> x.last());
        BoundedCodes y = new BoundedCodes(0);
        for (int symbol = 0; symbol < Some.SYMBOLS; symbol++) {
            due.answer("count(" + symbol + ", 0)", y.count(symbol, 0), false);
        }
        due.answer("make(1)", y.make(1), 0);
    }

    private static void takesRuleByThree(Due due) {
        String[] codes = {"0 100 101", "1 011 010", "1 000 001"};
        int[][] rules = {
            {0, 3, 6, -3, 2147483646, -2147483646},
            {1, 4, -2, -5, 2147483647, -2147483648},
            {2, 5, -1, -4, 2147483645, -2147483647},
        };
        for (int rule = 0; rule < 3; rule++) {
            for (int told : rules[rule]) {
                due.answer("codes by rule " + told, Some.codesOf(Some.withLengths(told, 1, 3, 3), 3), codes[rule]);
            }
        }
    }

    private static void objectsAreApart(Due due) {
        BoundedCodes x = Some.withCounts(0, 1, 2);
        BoundedCodes y = new BoundedCodes(1);
        x.make(3);
        x.feed(1);
        x.read();
        due.answer("the other one's length", y.length(0), 0);
        due.answer("the other one's make", y.make(3), 0);
        due.refusal("the other one's last", IllegalArgumentException.class, () -> y.last());
    }
}
