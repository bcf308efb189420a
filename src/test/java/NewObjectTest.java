/** Promise 1: A new object. */
public final class NewObjectTest {
    private static final String[] CODES = {"0 100 101", "1 011 010", "1 000 001"};

    public static void main(String[] args) {
        Due due = new Due();
        due.sentence("All counts and lengths 0");
        hasNoCounts(due);
        hasNoLengths(due);
        due.sentence("a new object has no bits, and none was read");
        hasNoBits(due);
        due.sentence("the rule is that of 0, 1 and 2 from which it differs by a number that 3 divides");
        takesRuleAsItIs(due);
        takesRuleByThree(due);
        takesOutermostRules(due);
        due.sentence("objects have nothing in common");
        objectsAreApart(due);
        due.end();
    }

    private static void hasNoCounts(Due due) {
        BoundedCodes x = new BoundedCodes(0);
        for (int symbol = 0; symbol < Some.SYMBOLS; symbol++) {
            due.answer("count(" + symbol + ", 0)", x.count(symbol, 0), false);
        }
        due.answer("make(1)", x.make(1), 0);
        due.answer("sum()", x.sum(), 0);
    }

    private static void hasNoLengths(Due due) {
        for (int rule = 0; rule < 3; rule++) {
            BoundedCodes x = new BoundedCodes(rule);
            for (int symbol = 0; symbol < Some.SYMBOLS; symbol++) {
                due.answer("length(" + symbol + ")", x.length(symbol), 0);
                due.answer("code(" + symbol + ")", x.code(symbol), BoundedCodes.NONE);
            }
            due.answer("check()", x.check(), 1);
            due.answer("sum()", x.sum(), 0);
            due.answer("lengths(0)", x.lengths(0), BoundedCodes.NONE);
        }
    }

    private static void hasNoBits(Due due) {
        BoundedCodes x = new BoundedCodes(0);
        due.answer("waiting()", x.waiting(), 0);
        due.answer("read()", x.read(), BoundedCodes.WAITS);
        due.refusal("last()", IllegalArgumentException.class, () -> x.last());
    }

    private static void hasRule(Due due, int told, int rule) {
        due.answer("codes by rule " + told, Some.codesOf(Some.withLengths(told, 1, 3, 3), 3), CODES[rule]);
    }

    private static void takesRuleAsItIs(Due due) {
        for (int rule = 0; rule < 3; rule++) {
            hasRule(due, rule, rule);
        }
    }

    private static void takesRuleByThree(Due due) {
        for (int times = -4; times <= 4; times++) {
            for (int rule = 0; rule < 3; rule++) {
                hasRule(due, rule + 3 * times, rule);
            }
        }
    }

    private static void takesOutermostRules(Due due) {
        hasRule(due, 2147483647, 1);
        hasRule(due, 2147483646, 0);
        hasRule(due, 2147483645, 2);
        hasRule(due, -2147483648, 1);
        hasRule(due, -2147483647, 2);
        hasRule(due, -2147483646, 0);
    }

    private static void objectsAreApart(Due due) {
        BoundedCodes x = Some.withCounts(0, 1, 2);
        BoundedCodes y = new BoundedCodes(1);
        x.make(3);
        x.feed(1);
        x.read();
        due.answer("the other one's length", y.length(0), 0);
        due.answer("the other one's make", y.make(3), 0);
        due.refusal("the other one's last", IllegalArgumentException.class, () -> y.last());
    }
}
