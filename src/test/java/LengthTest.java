/** Promise 4: length. */
public final class LengthTest {
    public static void main(String[] args) {
        Due due = new Due();
        due.sentence("A symbol's length");
        tellsEveryLength(due);
        tellsEverySymbols(due);
        tellsOfAnOverFullTable(due);
        due.sentence("0 for none");
        tellsNone(due);
        due.sentence("IndexOutOfBounds: there is no such symbol (0 .. 47)");
        allowsOutermostSymbols(due);
        refusesOtherSymbols(due);
        due.sentence("A call that throws changes nothing");
        refusalsChangeNothing(due);
        due.sentence("what tells something only changes nothing");
        changesNothing(due);
        due.end();
    }

    private static void tellsEveryLength(Due due) {
        BoundedCodes x = new BoundedCodes(1);
        for (int length = 1; length <= 16; length++) {
            x.given(7, length);
            due.answer("length(7) given", x.length(7), length);
            x.range(8, 1, 2, length);
            due.answer("length(8) with a range", x.length(8), length);
        }
    }

    private static void tellsEverySymbols(Due due) {
        BoundedCodes x = new BoundedCodes(0);
        for (int symbol = 0; symbol < Some.SYMBOLS; symbol++) {
            x.given(symbol, 1 + symbol % 16);
        }
        for (int symbol = 0; symbol < Some.SYMBOLS; symbol++) {
            due.answer("length(" + symbol + ")", x.length(symbol), 1 + symbol % 16);
        }
    }

    private static void tellsOfAnOverFullTable(Due due) {
        BoundedCodes x = Some.overFull();
        x.given(2, 3);
        due.answer("length(0)", x.length(0), 1);
        due.answer("length(2)", x.length(2), 3);
        due.answer("length(3)", x.length(3), 0);
    }

    private static void tellsNone(Due due) {
        BoundedCodes x = Some.withLengths(0, 1, 2, 0, 3);
        due.answer("length(2) was told to be none", x.length(2), 0);
        due.answer("length(4) was not told", x.length(4), 0);
        x.given(1, 0);
        due.answer("length(1) taken away", x.length(1), 0);
        x.count(40, 1);
        due.answer("length(40) with a count alone", x.length(40), 0);
        x.make(1);
        due.answer("length(0) that went by making", x.length(0), 0);
    }

    private static void allowsOutermostSymbols(Due due) {
        BoundedCodes x = new BoundedCodes(0);
        due.answer("length(0) without one", x.length(0), 0);
        due.answer("length(47) without one", x.length(47), 0);
        x.given(0, 16);
        x.given(47, 1);
        due.answer("length(0)", x.length(0), 16);
        due.answer("length(47)", x.length(47), 1);
    }

    private static void refusesOtherSymbols(Due due) {
        BoundedCodes x = Some.busy();
        BoundedCodes y = Some.overFull();
        for (int symbol : Some.NO_SYMBOLS) {
            due.refusal("length(" + symbol + ")", IndexOutOfBoundsException.class, () -> x.length(symbol));
            due.refusal("length(" + symbol + "), over-full", IndexOutOfBoundsException.class, () -> y.length(symbol));
        }
    }

    private static void refusalsChangeNothing(Due due) {
        Unchanged.refused(due, "length(-1)", IndexOutOfBoundsException.class, Some::busy, x -> x.length(-1));
        Unchanged.refused(due, "length(48)", IndexOutOfBoundsException.class, Some::busy, x -> x.length(48));
    }

    private static void changesNothing(Due due) {
        Unchanged.by(due, "length(9)", "3", Some::busy, x -> x.length(9));
        Unchanged.by(due, "length(9), over-full", "2", Some::busyOverFull, x -> x.length(9));
        Unchanged.by(due, "length(30), without a length", "0", Some::busy, x -> x.length(30));
    }
}
