/** Promise 4: length. */
public final class LengthTest {
    public static void main(String[] args) {
        Due due = new Due();
        BoundedCodes x = new BoundedCodes(1);
        x.given(0, 16);
        x.given(47, 1);
        x.range(20, 1, 2, 7);
        due.answer("length(0)", x.length(0), 16);
        due.answer("length(1)", x.length(1), 0);
        due.answer("length(20)", x.length(20), 7);
        due.answer("length(47)", x.length(47), 1);
        x.given(0, 0);
        due.answer("length(0) taken away", x.length(0), 0);
        x.given(1, 1);
        x.given(2, 1);
        due.answer("length(2) of an over-full table", x.length(2), 1);
        int[] wrong = {-1, 48, Integer.MIN_VALUE, Integer.MAX_VALUE};
        for (int symbol : wrong) {
            due.refusal("length(" + symbol + ")", IndexOutOfBoundsException.class, () -> x.length(symbol));
        }
        due.end();
    }
}
