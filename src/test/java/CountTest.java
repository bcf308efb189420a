/** Promise 2: count. */
public final class CountTest {
    public static void main(String[] args) {
        Due due = new Due();
        tellsWhetherAnother(due);
        holdsEverySymbol(due);
        changesNoLength(due);
        refuses(due);
        due.end();
    }

    private static void tellsWhetherAnother(Due due) {
        BoundedCodes x = new BoundedCodes(0);
        due.answer("count(0, 0)", x.count(0, 0), false);
        due.answer("count(0, 5)", x.count(0, 5), true);
        due.answer("count(0, 5) again", x.count(0, 5), false);
        due.answer("count(0, 1000000000)", x.count(0, 1000000000L), true);
        due.answer("count(0, 1000000000) again", x.count(0, 1000000000L), false);
        due.answer("count(0, 0) behind it", x.count(0, 0), true);
        due.answer("make(1)", x.make(1), 0);
    }

    private static void holdsEverySymbol(Due due) {
        BoundedCodes x = new BoundedCodes(0);
        for (int symbol = 0; symbol < Some.SYMBOLS; symbol++) {
            due.answer("count(" + symbol + ", " + (symbol + 1) + ")", x.count(symbol, symbol + 1), true);
        }
        for (int symbol = 0; symbol < Some.SYMBOLS; symbol++) {
            due.answer("count(" + symbol + ", " + (symbol + 1) + ") again", x.count(symbol, symbol + 1), false);
        }
    }

    private static void changesNoLength(Due due) {
        BoundedCodes x = Some.withLengths(0, 1, 2, 3);
        x.count(0, 10);
        x.count(1, 0);
        x.count(7, 10);
        due.answer("lengths", Some.lengthsOf(x, 8), "1 2 3 0 0 0 0 0");
        due.answer("sum()", x.sum(), 10);
    }

    private static void refuses(Due due) {
        BoundedCodes x = new BoundedCodes(0);
        x.count(0, 5);
        x.count(47, 7);
        due.refusal("count(-1, 1)", IndexOutOfBoundsException.class, () -> x.count(-1, 1));
        due.refusal("count(48, 1)", IndexOutOfBoundsException.class, () -> x.count(48, 1));
        due.refusal("count(least, 1)", IndexOutOfBoundsException.class, () -> x.count(Integer.MIN_VALUE, 1));
        due.refusal("count(most, 1)", IndexOutOfBoundsException.class, () -> x.count(Integer.MAX_VALUE, 1));
        due.refusal("count(0, -1)", IllegalArgumentException.class, () -> x.count(0, -1));
        due.refusal("count(0, 1000000001)", IllegalArgumentException.class, () -> x.count(0, 1000000001L));
        due.refusal("count(0, 2^32 + 1)", IllegalArgumentException.class, () -> x.count(0, (1L << 32) + 1));
        due.refusal("count(0, least)", IllegalArgumentException.class, () -> x.count(0, Long.MIN_VALUE));
        due.refusal("count(0, most)", IllegalArgumentException.class, () -> x.count(0, Long.MAX_VALUE));
        due.refusal("count(48, -1), both wrong", IndexOutOfBoundsException.class, () -> x.count(48, -1));
        due.answer("count(0, 5) behind refusals", x.count(0, 5), false);
        due.answer("count(47, 7) behind refusals", x.count(47, 7), false);
    }
}
