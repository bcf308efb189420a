import java.util.Arrays;

/** Promise 14: lengths. Of the 138 zeros that one number could tell there are never more than 47. */
public final class LengthsTest {
    public static void main(String[] args) {
        Due due = new Due();
        due.sentence("The lengths of symbols 0, 1, .. up to the last that has one, told as a row of numbers");
        endsAtTheLastLength(due);
        tellsAllApart(due);
        tellsOfAnOverFullTable(due);
        followsChanges(due);
        due.sentence("of which this is number i: NONE when there is none");
        tellsNumbers(due);
        isNoneOfNoLengths(due);
        isNoneOutside(due);
        due.sentence("if the next three or more are 0, 200 and how many (138 at most)");
        tellsZeros(due);
        tellsTheMostZeros(due);
        due.sentence("if the next three or more are as the one before, 100 and how many");
        tellsTheSame(due);
        due.sentence("(6 at most)");
        tellsSixAtMost(due);
        due.sentence("the one before, which was told");
        hasNoneBeforeTheFirst(due);
        hasOneBeforeThatWasToldAmongOthers(due);
        due.sentence("else the next one");
        tellsMixed(due);
        due.sentence("what tells something only changes nothing");
        changesNothing(due);
        due.end();
    }

    private static void row(Due due, String row, int... lengths) {
        due.answer("the row of " + Arrays.toString(lengths), Some.row(Some.withLengths(0, lengths)), row);
    }

    private static void endsAtTheLastLength(Due due) {
        row(due, "5", 5);
        row(due, "5", 5, 0);
        row(due, "5", 5, 0, 0, 0, 0);
        row(due, "5 0 1", 5, 0, 1, 0, 0);
        int[] last = new int[48];
        last[47] = 16;
        row(due, "247 16", last);
        last[46] = 1;
        last[47] = 0;
        row(due, "246 1", last);
    }

    private static void tellsAllApart(Due due) {
        BoundedCodes x = new BoundedCodes(0);
        for (int symbol = 0; symbol < Some.SYMBOLS; symbol++) {
            x.given(symbol, 15 + symbol % 2);
        }
        for (int i = 0; i < Some.SYMBOLS; i++) {
            due.answer("lengths(" + i + ")", x.lengths(i), 15 + i % 2);
        }
        due.answer("lengths(48)", x.lengths(48), BoundedCodes.NONE);
    }

    private static void tellsOfAnOverFullTable(Due due) {
        row(due, "1 103", 1, 1, 1, 1);
        int[] all = new int[48];
        Arrays.fill(all, 1);
        row(due, "1 106 106 106 106 106 106 106 105", all);
    }

    private static void followsChanges(Due due) {
        BoundedCodes x = Some.withLengths(0, 4, 4, 4, 4, 4);
        due.answer("the row", Some.row(x), "4 104");
        x.given(2, 0);
        due.answer("the row without one", Some.row(x), "4 4 0 4 4");
        x.range(2, 9, 9, 5);
        due.answer("the row with a range", Some.row(x), "4 4 5 4 4");
        x.given(4, 0);
        due.answer("the row without the last one", Some.row(x), "4 4 5 4");
        x.count(1, 1);
        x.make(1);
        due.answer("the row that was made", Some.row(x), "0 1");
        x.clear();
        due.answer("the row behind clear", Some.row(x), "");
    }

    private static void tellsNumbers(Due due) {
        BoundedCodes x = Some.withLengths(0, 5, 5, 5, 5, 0, 3);
        int[] told = {5, 103, 0, 3, -1, -1};
        for (int i = 0; i < told.length; i++) {
            due.answer("lengths(" + i + ")", x.lengths(i), told[i]);
        }
    }

    private static void isNoneOfNoLengths(Due due) {
        row(due, "");
        row(due, "", 0, 0, 0, 0);
        BoundedCodes x = new BoundedCodes(0);
        for (int i = -1; i <= 48; i++) {
            due.answer("lengths(" + i + ") of a new object", x.lengths(i), BoundedCodes.NONE);
        }
        due.answer("lengths(0) of counts alone", Some.withCounts(0, 1, 2).lengths(0), BoundedCodes.NONE);
    }

    private static void isNoneOutside(Due due) {
        BoundedCodes x = Some.withLengths(0, 5, 6, 5, 6);
        due.answer("lengths(0), the first", x.lengths(0), 5);
        due.answer("lengths(3), the last", x.lengths(3), 6);
        for (int i : new int[] {4, 5, -1, -2, 47, 48, 49, Integer.MIN_VALUE, Integer.MAX_VALUE}) {
            due.answer("lengths(" + i + ")", x.lengths(i), BoundedCodes.NONE);
        }
    }

    private static void tellsZeros(Due due) {
        row(due, "0 5", 0, 5);
        row(due, "0 0 5", 0, 0, 5);
        row(due, "203 5", 0, 0, 0, 5);
        row(due, "204 5", 0, 0, 0, 0, 5);
        row(due, "5 0 0 5", 5, 0, 0, 5);
        row(due, "5 203 5", 5, 0, 0, 0, 5);
        row(due, "5 206 5", 5, 0, 0, 0, 0, 0, 0, 5);
        row(due, "5 207 5", 5, 0, 0, 0, 0, 0, 0, 0, 5);
        row(due, "203 5 203 5", 0, 0, 0, 5, 0, 0, 0, 5);
    }

    private static void tellsTheMostZeros(Due due) {
        for (int zeros = 3; zeros <= 47; zeros++) {
            int[] lengths = new int[zeros + 1];
            lengths[zeros] = 9;
            row(due, (200 + zeros) + " 9", lengths);
        }
        int[] between = new int[48];
        between[0] = 7;
        between[47] = 7;
        row(due, "7 246 7", between);
    }

    private static void tellsTheSame(Due due) {
        row(due, "4 5 5 5", 4, 5, 5, 5);
        row(due, "4 5 103", 4, 5, 5, 5, 5);
        row(due, "5 5 5 6", 5, 5, 5, 6);
        row(due, "5 103 6", 5, 5, 5, 5, 6);
        row(due, "5 104", 5, 5, 5, 5, 5);
        row(due, "5 105", 5, 5, 5, 5, 5, 5);
        row(due, "16 103 1 103", 16, 16, 16, 16, 1, 1, 1, 1);
    }

    private static void tellsSixAtMost(Due due) {
        row(due, "5 106", 5, 5, 5, 5, 5, 5, 5);
        row(due, "5 106 5", 5, 5, 5, 5, 5, 5, 5, 5);
        row(due, "5 106 5 5", 5, 5, 5, 5, 5, 5, 5, 5, 5);
        row(due, "5 106 103", 5, 5, 5, 5, 5, 5, 5, 5, 5, 5);
        row(due, "5 106 106", 5, 5, 5, 5, 5, 5, 5, 5, 5, 5, 5, 5, 5);
        row(due, "5 106 106 5", 5, 5, 5, 5, 5, 5, 5, 5, 5, 5, 5, 5, 5, 5);
    }

    private static void hasNoneBeforeTheFirst(Due due) {
        row(due, "5 5", 5, 5);
        row(due, "5 5 5", 5, 5, 5);
        row(due, "5 103", 5, 5, 5, 5);
    }

    private static void hasOneBeforeThatWasToldAmongOthers(Due due) {
        row(due, "203 5 103", 0, 0, 0, 5, 5, 5, 5);
        row(due, "0 5 5 5", 0, 5, 5, 5);
        row(due, "5 203 5 5 5", 5, 0, 0, 0, 5, 5, 5);
    }

    private static void tellsMixed(Due due) {
        row(due, "5 204 5 103 0 0 6", 5, 0, 0, 0, 0, 5, 5, 5, 5, 0, 0, 6);
        row(due, "16 0 0 16 103 203 1", 16, 0, 0, 16, 16, 16, 16, 0, 0, 0, 1);
        row(due, "1 2 3 4", 1, 2, 3, 4);
    }

    private static void changesNothing(Due due) {
        Unchanged.by(due, "lengths(0)", "2", Some::busy, x -> x.lengths(0));
        Unchanged.by(due, "lengths(2)", "207", Some::busy, x -> x.lengths(2));
        for (int i : new int[] {-1, 48, Integer.MIN_VALUE, Integer.MAX_VALUE}) {
            Unchanged.by(due, "lengths(" + i + "), NONE", "-1", Some::busy, x -> x.lengths(i));
        }
    }
}
