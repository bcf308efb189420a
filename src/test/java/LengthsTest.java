/** Promise 14: lengths. */
public final class LengthsTest {
    public static void main(String[] args) {
        Due due = new Due();
        tellsRows(due);
        endsWithNone(due);
        due.end();
    }

    private static void row(Due due, String row, int... lengths) {
        due.answer("the row of " + java.util.Arrays.toString(lengths), Some.row(Some.withLengths(0, lengths)), row);
    }

    private static void tellsRows(Due due) {
        row(due, "");
        row(due, "", 0, 0, 0, 0);
        row(due, "5", 5);
        row(due, "5", 5, 0, 0, 0, 0);
        row(due, "0 5", 0, 5);
        row(due, "0 0 5", 0, 0, 5);
        row(due, "203 5", 0, 0, 0, 5);
        row(due, "5 5 5", 5, 5, 5);
        row(due, "5 103", 5, 5, 5, 5);
        row(due, "5 106", 5, 5, 5, 5, 5, 5, 5);
        row(due, "5 106 5", 5, 5, 5, 5, 5, 5, 5, 5);
        row(due, "5 106 5 5", 5, 5, 5, 5, 5, 5, 5, 5, 5);
        row(due, "5 106 103", 5, 5, 5, 5, 5, 5, 5, 5, 5, 5);
        row(due, "5 204 5 103 0 0 6", 5, 0, 0, 0, 0, 5, 5, 5, 5, 0, 0, 6);
        row(due, "16 0 0 16 103 203 1", 16, 0, 0, 16, 16, 16, 16, 0, 0, 0, 1);
        int[] last = new int[48];
        last[47] = 16;
        row(due, "247 16", last);
        int[] over = new int[48];
        java.util.Arrays.fill(over, 1);
        row(due, "1 106 106 106 106 106 106 106 105", over);
    }

    private static void endsWithNone(Due due) {
        BoundedCodes x = Some.withLengths(0, 5, 5, 5, 5, 0, 3);
        int[] told = {5, 103, 0, 3, -1, -1};
        for (int i = 0; i < told.length; i++) {
            due.answer("lengths(" + i + ")", x.lengths(i), told[i]);
        }
        int[] none = {-1, -2, 47, 48, Integer.MIN_VALUE, Integer.MAX_VALUE};
        for (int i : none) {
            due.answer("lengths(" + i + ")", x.lengths(i), BoundedCodes.NONE);
            due.answer("lengths(" + i + ") of a new object", new BoundedCodes(0).lengths(i), BoundedCodes.NONE);
        }
    }
}
