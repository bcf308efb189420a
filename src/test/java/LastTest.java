/** Promise 11: last. */
public final class LastTest {
    public static void main(String[] args) {
        Due due = new Due();
        tellsValues(due);
        keepsTheValue(due);
        refuses(due);
        due.end();
    }

    private static void value(Due due, int low, int extra, String further, long value) {
        BoundedCodes x = new BoundedCodes(0);
        x.range(9, low, extra, 1);
        Some.feedAll(x, "0" + further);
        due.answer("read()", x.read(), 9);
        due.answer("last() of " + low + " and " + extra + " bits " + further, x.last(), value);
        due.answer("last() again", x.last(), value);
    }

    private static void tellsValues(Due due) {
        BoundedCodes x = Some.withLengths(0, 1, 1);
        Some.feedAll(x, "1");
        x.read();
        due.answer("last() without a range", x.last(), 1);
        value(due, 100, 3, "110", 106);
        value(due, 100, -3, "110", 94);
        value(due, 100, 3, "011", 103);
        value(due, 100, 0, "", 100);
        value(due, 0, 0, "", 0);
        value(due, -5, 1, "1", -4);
        value(due, -5, -1, "1", -6);
        value(due, Integer.MAX_VALUE, 32, "1".repeat(32), 6442450942L);
        value(due, Integer.MIN_VALUE, -32, "1".repeat(32), -6442450943L);
        value(due, Integer.MIN_VALUE, 32, "0".repeat(32), Integer.MIN_VALUE);
    }

    private static void keepsTheValue(Due due) {
        BoundedCodes x = new BoundedCodes(0);
        x.range(9, 100, 3, 1);
        Some.feedAll(x, "01101");
        x.read();
        due.answer("read() without a code", x.read(), BoundedCodes.NO_CODE);
        due.answer("last() behind NO_CODE", x.last(), 106);
        due.answer("read() without bits", x.read(), BoundedCodes.WAITS);
        due.answer("last() behind WAITS", x.last(), 106);
        x.range(9, 7, -1, 2);
        due.answer("last() behind another range", x.last(), 106);
        x.given(9, 0);
        due.answer("last() behind no length", x.last(), 106);
        x.make(4);
        due.answer("last() behind make", x.last(), 106);
    }

    private static void refuses(Due due) {
        BoundedCodes x = new BoundedCodes(0);
        due.refusal("last() of a new object", IllegalArgumentException.class, () -> x.last());
        x.feed(1);
        x.read();
        due.refusal("last() behind NO_CODE alone", IllegalArgumentException.class, () -> x.last());
        x.given(0, 1);
        x.feed(0);
        x.read();
        due.answer("last() of symbol 0", x.last(), 0);
        x.clear();
        due.refusal("last() behind clear", IllegalArgumentException.class, () -> x.last());
    }
}
