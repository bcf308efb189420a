/** Objects in a state that several tests want, and what is told of them in more than one call. */
final class Some {
    static final int SYMBOLS = 48;

    /** What is next to a symbol on both sides, and what is far off. */
    static final int[] NO_SYMBOLS = {-1, 48, 49, -48, 64, 256, Integer.MIN_VALUE, Integer.MAX_VALUE};

    /** Symbols 0, 1, .. with these lengths. */
    static BoundedCodes withLengths(int rule, int... lengths) {
        BoundedCodes x = new BoundedCodes(rule);
        for (int symbol = 0; symbol < lengths.length; symbol++) {
            x.given(symbol, lengths[symbol]);
        }
        return x;
    }

    /** Symbols 0, 1, .. with these counts. */
    static BoundedCodes withCounts(int rule, long... counts) {
        BoundedCodes x = new BoundedCodes(rule);
        for (int symbol = 0; symbol < counts.length; symbol++) {
            x.count(symbol, counts[symbol]);
        }
        return x;
    }

    static BoundedCodes overFull() {
        return withLengths(0, 1, 1, 1);
    }

    /** Has some of all: counts, lengths, ranges, bits that wait, and a symbol that was read. */
    static BoundedCodes busy() {
        BoundedCodes x = new BoundedCodes(0);
        x.count(0, 7);
        x.count(1, 5);
        x.count(9, 3);
        x.count(30, 1);
        x.range(0, 100, 2, 2);
        x.range(1, -50, -3, 2);
        x.given(9, 3);
        x.given(47, 3);
        feedAll(x, "0011");
        x.read();
        feedAll(x, "01110" + "0010" + "100" + "11" + "101" + "00");
        return x;
    }

    /** As many bits wait as can, 16 symbols of 25 bits with their extra ones. */
    static BoundedCodes fullOfBits() {
        BoundedCodes x = new BoundedCodes(0);
        x.range(0, 5, 24, 1);
        x.range(1, 7, -24, 1);
        for (int i = 0; i < 400; i++) {
            x.feed(i * i % 7 % 2);
        }
        return x;
    }

    /** Just over-full, by symbol 47; with counts, ranges, bits that wait, and a symbol that was read. */
    static BoundedCodes busyOverFull() {
        BoundedCodes x = new BoundedCodes(0);
        x.count(0, 7);
        x.count(47, 5);
        x.range(0, 100, 2, 1);
        x.range(1, -50, -3, 2);
        x.given(9, 2);
        feedAll(x, "011");
        x.read();
        feedAll(x, "10110" + "010" + "11" + "1");
        x.given(47, 16);
        return x;
    }

    static void feedAll(BoundedCodes x, String bits) {
        for (int i = 0; i < bits.length(); i++) {
            x.feed(bits.charAt(i) - '0');
        }
    }

    static String lengthsOf(BoundedCodes x, int howMany) {
        StringBuilder all = new StringBuilder();
        for (int symbol = 0; symbol < howMany; symbol++) {
            all.append(symbol == 0 ? "" : " ").append(x.length(symbol));
        }
        return all.toString();
    }

    /** The codes of symbols 0, 1, .. as bits; '-' for none. */
    static String codesOf(BoundedCodes x, int howMany) {
        StringBuilder all = new StringBuilder();
        for (int symbol = 0; symbol < howMany; symbol++) {
            all.append(symbol == 0 ? "" : " ").append(bits(x.code(symbol), x.length(symbol)));
        }
        return all.toString();
    }

    private static String bits(long code, int length) {
        if (code == BoundedCodes.NONE) {
            return "-";
        }
        StringBuilder bits = new StringBuilder(Long.toBinaryString(code));
        while (bits.length() < length) {
            bits.insert(0, '0');
        }
        return bits.toString();
    }

    /** The row that lengths tells, up to its first NONE. */
    static String row(BoundedCodes x) {
        StringBuilder row = new StringBuilder();
        for (int i = 0; i <= SYMBOLS && x.lengths(i) != BoundedCodes.NONE; i++) {
            row.append(i == 0 ? "" : " ").append(x.lengths(i));
        }
        return row.toString();
    }
}
