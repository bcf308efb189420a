/** Promise 7: range. */
public final class RangeTest {
    public static void main(String[] args) {
        Due due = new Due();
        tellsWhetherNotOverFull(due);
        takesThePlaceOfAnother(due);
        reachesTheEdges(due);
        refuses(due);
        due.end();
    }

    private static void tellsWhetherNotOverFull(Due due) {
        BoundedCodes x = new BoundedCodes(0);
        due.answer("range(0, 1, 0, 1)", x.range(0, 1, 0, 1), true);
        due.answer("range(47, 1, 0, 1), complete", x.range(47, 1, 0, 1), true);
        due.answer("range(3, 1, 0, 16), just over-full", x.range(3, 1, 0, 16), false);
        due.answer("length(3) is told all the same", x.length(3), 16);
        due.answer("range(0, 1, 0, 2)", x.range(0, 1, 0, 2), true);
        due.answer("length(0)", x.length(0), 2);
    }

    private static void takesThePlaceOfAnother(Due due) {
        BoundedCodes x = new BoundedCodes(0);
        x.given(5, 4);
        x.range(5, 10, 1, 2);
        x.range(5, 20, -2, 1);
        Some.feedAll(x, "011");
        due.answer("read()", x.read(), 5);
        due.answer("last()", x.last(), 17);
        due.answer("waiting()", x.waiting(), 0);
    }

    private static void reachesTheEdges(Due due) {
        String ones = "1".repeat(32);
        edge(due, Integer.MAX_VALUE, 32, ones, 2147483647L + 4294967295L);
        edge(due, Integer.MIN_VALUE, -32, ones, -2147483648L - 4294967295L);
        edge(due, Integer.MIN_VALUE, 32, "1" + "0".repeat(31), 0);
        edge(due, Integer.MAX_VALUE, -32, "0".repeat(31) + "1", 2147483646);
        edge(due, Integer.MAX_VALUE, 1, "1", 2147483648L);
        edge(due, Integer.MIN_VALUE, -1, "1", -2147483649L);
        edge(due, -7, 0, "", -7);
    }

    private static void edge(Due due, int low, int extra, String further, long value) {
        BoundedCodes x = new BoundedCodes(0);
        due.answer("range(47, " + low + ", " + extra + ", 16)", x.range(47, low, extra, 16), true);
        Some.feedAll(x, "0".repeat(16) + further);
        due.answer("read()", x.read(), 47);
        due.answer("last()", x.last(), value);
        due.answer("waiting()", x.waiting(), 0);
    }

    private static void refuses(Due due) {
        BoundedCodes x = new BoundedCodes(0);
        x.range(0, 100, 2, 1);
        due.refusal("range(-1, 0, 0, 1)", IndexOutOfBoundsException.class, () -> x.range(-1, 0, 0, 1));
        due.refusal("range(48, 0, 0, 1)", IndexOutOfBoundsException.class, () -> x.range(48, 0, 0, 1));
        due.refusal("range(0, 0, 0, 0)", IllegalArgumentException.class, () -> x.range(0, 0, 0, 0));
        due.refusal("range(0, 0, 0, -1)", IllegalArgumentException.class, () -> x.range(0, 0, 0, -1));
        due.refusal("range(0, 0, 0, 17)", IllegalArgumentException.class, () -> x.range(0, 0, 0, 17));
        due.refusal("range(0, 0, 33, 1)", IllegalArgumentException.class, () -> x.range(0, 0, 33, 1));
        due.refusal("range(0, 0, -33, 1)", IllegalArgumentException.class, () -> x.range(0, 0, -33, 1));
        due.refusal("range(0, 0, least, 1)", IllegalArgumentException.class,
                () -> x.range(0, 0, Integer.MIN_VALUE, 1));
        due.refusal("range(48, 0, 33, 17), all wrong", IndexOutOfBoundsException.class, () -> x.range(48, 0, 33, 17));
        due.answer("length(0) behind refusals", x.length(0), 1);
        Some.feedAll(x, "010");
        due.answer("read() behind refusals", x.read(), 0);
        due.answer("last() behind refusals", x.last(), 102);
    }
}
