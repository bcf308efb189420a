/** Promise 5: code, by each of the three rules. */
public final class CodeTest {
    public static void main(String[] args) {
        Due due = new Due();
        ordinary(due);
        incomplete(due);
        longest(due);
        all(due);
        beginNoOther(due);
        refuses(due);
        due.end();
    }

    private static void codes(Due due, int rule, int[] lengths, String codes) {
        due.answer("codes by rule " + rule + " of " + java.util.Arrays.toString(lengths),
                Some.codesOf(Some.withLengths(rule, lengths), lengths.length), codes);
    }

    private static void ordinary(Due due) {
        int[] complete = {3, 3, 3, 3, 3, 2, 4, 4};
        codes(due, 0, complete, "010 011 100 101 110 00 1110 1111");
        codes(due, 1, complete, "101 100 011 010 001 11 0001 0000");
        codes(due, 2, complete, "001 010 011 100 101 11 0000 0001");
    }

    private static void incomplete(Due due) {
        int[] gaps = {0, 5, 2, 0, 2, 5, 5};
        codes(due, 0, gaps, "- 10000 00 - 01 10001 10010");
        codes(due, 1, gaps, "- 01111 11 - 10 01110 01101");
        codes(due, 2, gaps, "- 00000 01 - 10 00001 00010");
        // Rounded up at each step: 1 of 6 bits, 2 of 4 bits, 1 of 2 bits.
        codes(due, 2, new int[] {6, 4, 4, 2}, "000000 0001 0010 01");
        codes(due, 2, new int[] {4, 4, 4, 4, 2}, "0000 0001 0010 0011 01");
        codes(due, 2, new int[] {4, 4, 4, 4, 4, 2}, "0000 0001 0010 0011 0100 10");
    }

    private static void longest(Due due) {
        int[] lengths = {1, 16, 2, 16};
        codes(due, 0, lengths, "0 1100000000000000 10 1100000000000001");
        codes(due, 1, lengths, "1 0011111111111111 01 0011111111111110");
        codes(due, 2, lengths, "1 0000000000000000 01 0000000000000001");
        codes(due, 0, new int[] {1}, "0");
        codes(due, 1, new int[] {1}, "1");
        codes(due, 2, new int[] {1}, "0");
    }

    private static void all(Due due) {
        for (int rule = 0; rule < 3; rule++) {
            BoundedCodes x = new BoundedCodes(rule);
            for (int symbol = 0; symbol < Some.SYMBOLS; symbol++) {
                x.given(symbol, 6);
            }
            for (int symbol = 0; symbol < Some.SYMBOLS; symbol++) {
                due.answer("code(" + symbol + ") by rule " + rule, x.code(symbol), rule == 1 ? 63 - symbol : symbol);
            }
        }
    }

    private static void beginNoOther(Due due) {
        for (int rule = 0; rule < 3; rule++) {
            BoundedCodes x = Some.withLengths(rule, 5, 9, 3, 3, 16, 2, 12, 5, 0, 3);
            String[] codes = Some.codesOf(x, 10).split(" ");
            for (int i = 0; i < codes.length; i++) {
                for (int k = 0; k < codes.length; k++) {
                    due.answer("code " + i + " begins code " + k, i != k && codes[k].startsWith(codes[i]), false);
                }
            }
        }
    }

    private static void refuses(Due due) {
        BoundedCodes x = Some.overFull();
        due.refusal("code(0) over-full", IllegalStateException.class, () -> x.code(0));
        due.refusal("code(9) over-full, without a length", IllegalStateException.class, () -> x.code(9));
        due.refusal("code(-1) over-full", IndexOutOfBoundsException.class, () -> x.code(-1));
        due.refusal("code(48) over-full", IndexOutOfBoundsException.class, () -> x.code(48));
        x.given(1, 0);
        due.answer("code(2) not over-full any more", x.code(2), 1);
        due.refusal("code(-1)", IndexOutOfBoundsException.class, () -> x.code(-1));
        due.refusal("code(48)", IndexOutOfBoundsException.class, () -> x.code(48));
        due.refusal("code(least)", IndexOutOfBoundsException.class, () -> x.code(Integer.MIN_VALUE));
    }
}
