/** Objects in a state that several tests want, and what can be seen of an object without changing it. */
final class Some {
    static final int SYMBOLS = 48;

    /** Symbols 0, 1, .. with these lengths. */
    static BoundedCodes withLengths(int rule, int... lengths) {
        BoundedCodes x = new BoundedCodes(rule);
        for (int symbol = 0; symbol < lengths.length; symbol++) {
            x.given(symbol, lengths[symbol]);
        }
        return x;
    }

    /** Symbols 0, 1, .. with these counts. */
    static BoundedCodes withCounts(int rule, long... counts) {
        BoundedCodes x = new BoundedCodes(rule);
        for (int symbol = 0; symbol < counts.length; symbol++) {
            x.count(symbol, counts[symbol]);
        }
        return x;
    }

    static BoundedCodes overFull() {
        return withLengths(0, 1, 1, 1);
    }

    static void feedAll(BoundedCodes x, String bits) {
        for (int i = 0; i < bits.length(); i++) {
            x.feed(bits.charAt(i) - '0');
        }
    }

    static String lengthsOf(BoundedCodes x, int howMany) {
        StringBuilder all = new StringBuilder();
        for (int symbol = 0; symbol < howMany; symbol++) {
            all.append(symbol == 0 ? "" : " ").append(x.length(symbol));
        }
        return all.toString();
    }

    /** The codes of symbols 0, 1, .. as bits; '-' for none. */
    static String codesOf(BoundedCodes x, int howMany) {
        StringBuilder all = new StringBuilder();
        for (int symbol = 0; symbol < howMany; symbol++) {
            all.append(symbol == 0 ? "" : " ").append(bits(x.code(symbol), x.length(symbol)));
        }
        return all.toString();
    }

    private static String bits(long code, int length) {
        if (code == BoundedCodes.NONE) {
            return "-";
        }
        StringBuilder bits = new StringBuilder(Long.toBinaryString(code));
        while (bits.length() < length) {
            bits.insert(0, '0');
        }
        return bits.toString();
    }

    /** The row that lengths tells, up to its first NONE. */
    static String row(BoundedCodes x) {
        StringBuilder row = new StringBuilder();
        for (int i = 0; i <= SYMBOLS && x.lengths(i) != BoundedCodes.NONE; i++) {
            row.append(i == 0 ? "" : " ").append(x.lengths(i));
        }
        return row.toString();
    }

    /** Some 100 calls' worth of what can be seen, to be compared before and behind a call that changes nothing. */
    static String seen(BoundedCodes x) {
        return lengthsOf(x, SYMBOLS) + "; " + Due.outcome(() -> codesOf(x, 8)) + "; check " + x.check()
                + "; waiting " + x.waiting() + "; sum " + x.sum() + "; last " + Due.outcome(() -> x.last());
    }
}
