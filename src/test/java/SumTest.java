/** Promise 13: sum. */
public final class SumTest {
    public static void main(String[] args) {
        Due due = new Due();
        BoundedCodes x = new BoundedCodes(0);
        due.answer("sum() at first", x.sum(), 0);
        x.count(0, 7);
        due.answer("sum() without lengths", x.sum(), 0);
        x.given(0, 3);
        x.given(1, 5);
        x.count(47, 1000);
        due.answer("sum() of one", x.sum(), 21);
        x.range(47, 5, 20, 2);
        due.answer("sum() of two", x.sum(), 2021);
        x.count(0, 0);
        due.answer("sum() of the other one", x.sum(), 2000);
        BoundedCodes y = new BoundedCodes(1);
        for (int symbol = 0; symbol < Some.SYMBOLS; symbol++) {
            y.count(symbol, 1000000000L);
            y.given(symbol, 16);
        }
        due.answer("sum() of the most", y.sum(), 768000000000L);
        for (int symbol = 0; symbol < Some.SYMBOLS; symbol++) {
            y.given(symbol, 1);
        }
        due.answer("sum() of an over-full table", y.sum(), 48000000000L);
        due.end();
    }
}
