/** Promise 6: given. */
public final class GivenTest {
    public static void main(String[] args) {
        Due due = new Due();
        tellsWhetherNotOverFull(due);
        takesRangeAway(due);
        keepsCounts(due);
        refuses(due);
        due.end();
    }

    private static void tellsWhetherNotOverFull(Due due) {
        BoundedCodes x = new BoundedCodes(0);
        due.answer("given(0, 1)", x.given(0, 1), true);
        due.answer("given(1, 1), complete", x.given(1, 1), true);
        due.answer("given(2, 16), just over-full", x.given(2, 16), false);
        due.answer("length(2) is told all the same", x.length(2), 16);
        due.answer("given(3, 0), still over-full", x.given(3, 0), false);
        due.answer("given(1, 2)", x.given(1, 2), true);
        due.answer("given(1, 1) over-full again", x.given(1, 1), false);
        due.answer("given(2, 0), complete again", x.given(2, 0), true);
        due.answer("given(1, 0)", x.given(1, 0), true);
        due.answer("lengths", Some.row(x), "1");
        BoundedCodes y = new BoundedCodes(2);
        for (int symbol = 0; symbol < Some.SYMBOLS; symbol++) {
            due.answer("given(" + symbol + ", 1)", y.given(symbol, 1), symbol < 2);
        }
    }

    private static void takesRangeAway(Due due) {
        BoundedCodes x = new BoundedCodes(0);
        x.range(6, 100, 3, 1);
        x.range(7, 100, 3, 2);
        due.answer("given(6, 1)", x.given(6, 1), true);
        Some.feedAll(x, "0");
        due.answer("read() of a symbol without a range", x.read(), 6);
        due.answer("last() of a symbol without a range", x.last(), 6);
        Some.feedAll(x, "10001");
        due.answer("read() of the other one", x.read(), 7);
        due.answer("last() of the other one", x.last(), 101);
    }

    private static void keepsCounts(Due due) {
        BoundedCodes x = new BoundedCodes(0);
        x.count(3, 9);
        x.given(3, 4);
        due.answer("sum()", x.sum(), 36);
        x.given(3, 0);
        due.answer("count(3, 9)", x.count(3, 9), false);
    }

    private static void refuses(Due due) {
        BoundedCodes x = new BoundedCodes(0);
        x.range(0, 100, 1, 1);
        due.refusal("given(-1, 1)", IndexOutOfBoundsException.class, () -> x.given(-1, 1));
        due.refusal("given(48, 1)", IndexOutOfBoundsException.class, () -> x.given(48, 1));
        due.refusal("given(0, -1)", IllegalArgumentException.class, () -> x.given(0, -1));
        due.refusal("given(0, 17)", IllegalArgumentException.class, () -> x.given(0, 17));
        due.refusal("given(0, least)", IllegalArgumentException.class, () -> x.given(0, Integer.MIN_VALUE));
        due.refusal("given(0, most)", IllegalArgumentException.class, () -> x.given(0, Integer.MAX_VALUE));
        due.refusal("given(48, 17), both wrong", IndexOutOfBoundsException.class, () -> x.given(48, 17));
        due.answer("length(0) behind refusals", x.length(0), 1);
        Some.feedAll(x, "01");
        due.answer("read() behind refusals", x.read(), 0);
        due.answer("last() behind refusals, by the range", x.last(), 101);
    }
}
