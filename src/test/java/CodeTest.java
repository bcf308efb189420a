import java.util.Arrays;

/** Promise 5: code, and the term CODES with its three rules. */
public final class CodeTest {
    private static final int[] STAIR = {1, 2, 3, 4, 5, 6, 7, 8, 9, 10, 11, 12, 13, 14, 15, 16, 16};

    public static void main(String[] args) {
        Due due = new Due();
        due.sentence("RULES");
        ordinary(due);
        incomplete(due);
        longest(due);
        ofOneSymbol(due);
        ofAllSymbols(due);
        due.sentence("none the beginning of another one");
        beginNoOther(due);
        ruleZero(due);
        ruleOne(due);
        ruleTwo(due);
        due.sentence("A symbol's code, as a number of as many bits as its length");
        endsAtTheGreatestNumber(due);
        due.sentence("NONE without a length");
        isNoneWithoutALength(due);
        due.sentence("IllegalState: the table is over-full");
        isThereWhenJustComplete(due);
        refusesWhenJustOverFull(due);
        refusesWithoutALengthToo(due);
        comesAgain(due);
        due.sentence("IndexOutOfBounds: there is no such symbol (0 .. 47)");
        allowsOutermostSymbols(due);
        refusesOtherSymbols(due);
        due.sentence("Of several that a call names, the first one");
        refusesTheSymbolFirst(due);
        due.sentence("A call that throws changes nothing");
        refusalsChangeNothing(due);
        due.sentence("what tells something only changes nothing");
        changesNothing(due);
        due.end();
    }

    private static void codes(Due due, int rule, int[] lengths, String codes) {
        due.answer("codes by rule " + rule + " of " + Arrays.toString(lengths),
                Some.codesOf(Some.withLengths(rule, lengths), lengths.length), codes);
    }

    private static void ordinary(Due due) {
        int[] complete = {3, 3, 3, 3, 3, 2, 4, 4};
        codes(due, 0, complete, "010 011 100 101 110 00 1110 1111");
        codes(due, 1, complete, "101 100 011 010 001 11 0001 0000");
        codes(due, 2, complete, "001 010 011 100 101 11 0000 0001");
    }

    private static void incomplete(Due due) {
        int[] gaps = {0, 5, 2, 0, 2, 5, 5};
        codes(due, 0, gaps, "- 10000 00 - 01 10001 10010");
        codes(due, 1, gaps, "- 01111 11 - 10 01110 01101");
        codes(due, 2, gaps, "- 00000 01 - 10 00001 00010");
    }

    private static void longest(Due due) {
        int[] lengths = {1, 16, 2, 16};
        codes(due, 0, lengths, "0 1100000000000000 10 1100000000000001");
        codes(due, 1, lengths, "1 0011111111111111 01 0011111111111110");
        codes(due, 2, lengths, "1 0000000000000000 01 0000000000000001");
    }

    private static void ofOneSymbol(Due due) {
        for (int length = 1; length <= 16; length++) {
            codes(due, 0, new int[] {length}, "0".repeat(length));
            codes(due, 1, new int[] {length}, "1".repeat(length));
            codes(due, 2, new int[] {length}, "0".repeat(length));
        }
    }

    private static void ofAllSymbols(Due due) {
        for (int rule = 0; rule < 3; rule++) {
            BoundedCodes x = new BoundedCodes(rule);
            for (int symbol = 0; symbol < Some.SYMBOLS; symbol++) {
                x.given(symbol, 6);
            }
            for (int symbol = 0; symbol < Some.SYMBOLS; symbol++) {
                due.answer("code(" + symbol + ") by rule " + rule, x.code(symbol), rule == 1 ? 63 - symbol : symbol);
            }
        }
    }

    private static void beginNoOther(Due due) {
        for (int rule = 0; rule < 3; rule++) {
            BoundedCodes x = Some.withLengths(rule, 5, 9, 3, 3, 16, 2, 12, 5, 0, 3);
            String[] codes = Some.codesOf(x, 10).split(" ");
            for (int i = 0; i < codes.length; i++) {
                for (int k = 0; k < codes.length; k++) {
                    due.answer("code " + i + " begins code " + k, i != k && codes[k].startsWith(codes[i]), false);
                }
            }
        }
    }

    private static void ruleZero(Due due) {
        due.sentence("0: the shortest first, of one length the least first");
        codes(due, 0, new int[] {3, 2, 3, 2}, "100 00 101 01");
        due.sentence("0: the first code is all 0");
        codes(due, 0, new int[] {16, 16}, "0000000000000000 0000000000000001");
        due.sentence("0: one more than the one before, with as many 0 behind as it is longer");
        codes(due, 0, new int[] {1, 2}, "0 10");
        codes(due, 0, new int[] {1, 16}, "0 1000000000000000");
        codes(due, 0, new int[] {2, 2, 2, 5, 6, 6}, "00 01 10 11000 110010 110011");
    }

    private static void ruleOne(Due due) {
        due.sentence("1: all bits of these are the other way round");
        codes(due, 1, new int[] {3, 2, 3, 2}, "011 11 010 10");
        codes(due, 1, new int[] {16, 16}, "1111111111111111 1111111111111110");
        codes(due, 1, new int[] {1, 16}, "1 0111111111111111");
    }

    private static void ruleTwo(Due due) {
        due.sentence("2: the longest first, of one length the least first");
        codes(due, 2, new int[] {2, 3, 2, 3}, "01 000 10 001");
        due.sentence("2: the first code is all 0");
        codes(due, 2, new int[] {16, 16}, "0000000000000000 0000000000000001");
        due.sentence("2: with as many of its last bits taken away as it is shorter");
        codes(due, 2, new int[] {2, 2, 1}, "00 01 1");
        codes(due, 2, new int[] {4, 4, 4, 4, 2}, "0000 0001 0010 0011 01");
        due.sentence("2: and one more again if one of these was 1");
        codes(due, 2, new int[] {2, 1}, "00 1");
        codes(due, 2, new int[] {16, 1}, "0000000000000000 1");
        codes(due, 2, new int[] {4, 2}, "0000 01");
        codes(due, 2, new int[] {4, 4, 2}, "0000 0001 01");
        codes(due, 2, new int[] {4, 4, 4, 2}, "0000 0001 0010 01");
        codes(due, 2, new int[] {4, 4, 4, 4, 4, 2}, "0000 0001 0010 0011 0100 10");
        // Rounded up at each step: 1 of 6 bits, 2 of 4 bits, 1 of 2 bits.
        codes(due, 2, new int[] {6, 4, 4, 2}, "000000 0001 0010 01");
    }

    private static void endsAtTheGreatestNumber(Due due) {
        due.answer("code(16) by rule 0", Some.withLengths(0, STAIR).code(16), 65535);
        due.answer("code(0) by rule 0", Some.withLengths(0, STAIR).code(0), 0);
        due.answer("code(16) by rule 1", Some.withLengths(1, STAIR).code(16), 0);
        due.answer("code(0) by rule 1", Some.withLengths(1, STAIR).code(0), 1);
        due.answer("code(15) by rule 2", Some.withLengths(2, STAIR).code(15), 0);
        due.answer("code(16) by rule 2", Some.withLengths(2, STAIR).code(16), 1);
        due.answer("code(0) by rule 2", Some.withLengths(2, STAIR).code(0), 1);
        due.answer("code(0) of 16 bits by rule 1", Some.withLengths(1, 16).code(0), 65535);
    }

    private static void isNoneWithoutALength(Due due) {
        for (int rule = 0; rule < 3; rule++) {
            BoundedCodes x = Some.withLengths(rule, 0, 1, 2, 2);
            due.answer("code(0), not given", x.code(0), BoundedCodes.NONE);
            due.answer("code(47), not given", x.code(47), BoundedCodes.NONE);
            x.given(3, 0);
            due.answer("code(3), taken away", x.code(3), BoundedCodes.NONE);
            due.answer("code(2) is there", x.code(2), new int[] {2, 1, 0}[rule]);
        }
    }

    private static void isThereWhenJustComplete(Due due) {
        for (int rule = 0; rule < 3; rule++) {
            BoundedCodes x = Some.withLengths(rule, STAIR);
            due.answer("code(1), just complete", x.code(1), new int[] {2, 1, 1}[rule]);
            due.answer("code(20), just complete", x.code(20), BoundedCodes.NONE);
        }
    }

    private static void refusesWhenJustOverFull(Due due) {
        for (int rule = 0; rule < 3; rule++) {
            BoundedCodes x = Some.withLengths(rule, STAIR);
            x.given(47, 16);
            for (int symbol = 0; symbol < STAIR.length; symbol++) {
                int one = symbol;
                due.refusal("code(" + one + ")", IllegalStateException.class, () -> x.code(one));
            }
            due.refusal("code(47)", IllegalStateException.class, () -> x.code(47));
        }
    }

    private static void refusesWithoutALengthToo(Due due) {
        BoundedCodes x = Some.overFull();
        due.refusal("code(9), without a length", IllegalStateException.class, () -> x.code(9));
        due.refusal("code(47), without a length", IllegalStateException.class, () -> x.code(47));
    }

    private static void comesAgain(Due due) {
        BoundedCodes x = Some.overFull();
        x.given(1, 0);
        due.answer("code(0) not over-full any more", x.code(0), 0);
        due.answer("code(1) not over-full any more", x.code(1), BoundedCodes.NONE);
        due.answer("code(2) not over-full any more", x.code(2), 1);
    }

    private static void allowsOutermostSymbols(Due due) {
        BoundedCodes x = new BoundedCodes(0);
        x.given(0, 2);
        x.given(47, 2);
        due.answer("code(0)", x.code(0), 0);
        due.answer("code(47)", x.code(47), 1);
    }

    private static void refusesOtherSymbols(Due due) {
        BoundedCodes x = Some.busy();
        for (int symbol : Some.NO_SYMBOLS) {
            due.refusal("code(" + symbol + ")", IndexOutOfBoundsException.class, () -> x.code(symbol));
        }
    }

    private static void refusesTheSymbolFirst(Due due) {
        BoundedCodes x = Some.overFull();
        for (int symbol : Some.NO_SYMBOLS) {
            due.refusal("code(" + symbol + "), over-full", IndexOutOfBoundsException.class, () -> x.code(symbol));
        }
    }

    private static void refusalsChangeNothing(Due due) {
        Unchanged.refused(due, "code(-1)", IndexOutOfBoundsException.class, Some::busy, x -> x.code(-1));
        Unchanged.refused(due, "code(48)", IndexOutOfBoundsException.class, Some::busy, x -> x.code(48));
        Unchanged.refused(due, "code(0)", IllegalStateException.class, Some::busyOverFull, x -> x.code(0));
        Unchanged.refused(due, "code(47)", IllegalStateException.class, Some::busyOverFull, x -> x.code(47));
    }

    private static void changesNothing(Due due) {
        Unchanged.by(due, "code(9)", "4", Some::busy, x -> x.code(9));
        Unchanged.by(due, "code(30), without a length", "-1", Some::busy, x -> x.code(30));
    }
}
