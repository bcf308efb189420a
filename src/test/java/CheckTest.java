/** Promise 8: check. */
public final class CheckTest {
    public static void main(String[] args) {
        Due due = new Due();
        due.answer("check() of no lengths", new BoundedCodes(0).check(), 1);
        due.answer("check() of 1", Some.withLengths(0, 1).check(), 1);
        due.answer("check() of 1 1", Some.withLengths(0, 1, 1).check(), 0);
        due.answer("check() of 1 1 1", Some.withLengths(0, 1, 1, 1).check(), 2);
        int[] stairs = {1, 2, 3, 4, 5, 6, 7, 8, 9, 10, 11, 12, 13, 14, 15, 16, 16, 16};
        BoundedCodes x = new BoundedCodes(1);
        for (int symbol = 0; symbol < stairs.length; symbol++) {
            x.given(symbol, stairs[symbol]);
            due.answer("check() of stairs up to " + symbol, x.check(), symbol < 16 ? 1 : symbol == 16 ? 0 : 2);
        }
        x.given(17, 0);
        due.answer("check() of stairs without the last one", x.check(), 0);
        x.given(0, 0);
        due.answer("check() of stairs without the first one", x.check(), 1);
        BoundedCodes y = new BoundedCodes(2);
        for (int symbol = 0; symbol < Some.SYMBOLS; symbol++) {
            y.range(symbol, 0, 0, 5);
            due.answer("check() of fives up to " + symbol, y.check(), symbol < 31 ? 1 : symbol == 31 ? 0 : 2);
        }
        due.end();
    }
}
