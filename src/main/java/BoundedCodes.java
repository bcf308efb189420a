/**
 * Codes of bits for up to 48 symbols, none the beginning of another one: their lengths are made by
 * counts or told, the codes follow one of three rules, and symbols are read from bits that wait.
 */
public final class BoundedCodes {
    public static final int NONE = -1, WAITS = -1, NO_CODE = -2;

    private static final int SYMBOLS = 48;
    private static final int LONGEST = 16;
    private static final int MOST_EXTRA = 32;
    private static final int MOST_WAITING = 400;
    private static final long MOST_COUNT = 1000000000L;

    private static final int RULES = 3;
    private static final int INVERTED = 1;
    private static final int LONGEST_FIRST = 2;

    private static final int COMPLETE = 0;
    private static final int INCOMPLETE = 1;
    private static final int OVER_FULL = 2;

    private static final int LEAST_RUN = 3;
    private static final int ZEROS = 200;
    private static final int MOST_ZEROS = 138;
    private static final int AGAIN = 100;
    private static final int MOST_AGAIN = 6;

    private final Table table;
    private final Making making = new Making();
    private final WaitingBits bits = new WaitingBits();
    private final long[] countOf = new long[SYMBOLS];
    private final int[] lowOf = new int[SYMBOLS];
    private final int[] extraOf = new int[SYMBOLS];
    private boolean wasRead = false;
    private long lastValue = 0;

    public BoundedCodes(int rule) {
        table = new Table(Math.floorMod(rule, RULES));
        dropAllRanges();
    }

    public boolean count(int symbol, long n) throws IndexOutOfBoundsException, IllegalArgumentException {
        needSymbol(symbol);
        if (n < 0 || n > MOST_COUNT) {
            throw new IllegalArgumentException("the count is not 0 .. 1000000000");
        }
        boolean another = countOf[symbol] != n;
        countOf[symbol] = n;
        return another;
    }

    public int make(int most) throws IllegalArgumentException {
        if (most < 1 || most > LONGEST) {
            throw new IllegalArgumentException("the most is not 1 .. 16");
        }
        int counted = making.sortSymbols(countOf);
        if (counted > 1 << most) {
            return NONE;
        }
        making.makeLengths(countOf, most, table.lengthOf);
        table.renew();
        dropAllRanges();
        return counted;
    }

    public int length(int symbol) throws IndexOutOfBoundsException {
        needSymbol(symbol);
        return table.lengthOf[symbol];
    }

    public long code(int symbol) throws IndexOutOfBoundsException, IllegalStateException {
        needSymbol(symbol);
        needCodes();
        return table.lengthOf[symbol] == 0 ? NONE : table.codeOf[symbol];
    }

    public boolean given(int symbol, int length) throws IndexOutOfBoundsException, IllegalArgumentException {
        needSymbol(symbol);
        if (length < 0 || length > LONGEST) {
            throw new IllegalArgumentException("the length is not 0 .. 16");
        }
        dropRange(symbol);
        return tellLength(symbol, length);
    }

    public boolean range(int symbol, int low, int extra, int length)
            throws IndexOutOfBoundsException, IllegalArgumentException {
        needSymbol(symbol);
        if (length < 1 || length > LONGEST) {
            throw new IllegalArgumentException("the length is not 1 .. 16");
        }
        if (extra < -MOST_EXTRA || extra > MOST_EXTRA) {
            throw new IllegalArgumentException("the extra bits are not -32 .. 32");
        }
        lowOf[symbol] = low;
        extraOf[symbol] = extra;
        return tellLength(symbol, length);
    }

    public int check() {
        return table.state();
    }

    public boolean feed(int bit) throws IllegalArgumentException {
        if (bit != 0 && bit != 1) {
            throw new IllegalArgumentException("the bit is not 0 or 1");
        }
        return bits.append(bit);
    }

    public int read() throws IllegalStateException {
        needCodes();
        for (int n = 1; n <= LONGEST && n <= bits.size; n++) {
            int symbol = table.symbolBegunBy((int) bits.number(0, n), n);
            if (symbol == NONE) {
                bits.drop(n);
                return NO_CODE;
            }
            // No code begins another one: a whole code is the only one that these bits begin.
            if (table.lengthOf[symbol] == n) {
                return takeSymbol(symbol);
            }
        }
        return WAITS;
    }

    public long last() throws IllegalArgumentException {
        if (!wasRead) {
            throw new IllegalArgumentException("no symbol was read");
        }
        return lastValue;
    }

    public int waiting() {
        return bits.size;
    }

    public long sum() {
        long sum = 0;
        for (int symbol = 0; symbol < SYMBOLS; symbol++) {
            sum += countOf[symbol] * table.lengthOf[symbol];
        }
        return sum;
    }

    public int lengths(int i) {
        int end = table.endOfLengths();
        int at = 0;
        for (int number = 0; number < SYMBOLS && at < end; number++) {
            int told = numberTold(at, end);
            if (number == i) {
                return told;
            }
            at += lengthsToldBy(told);
        }
        return NONE;
    }

    public void clear() {
        for (int symbol = 0; symbol < SYMBOLS; symbol++) {
            countOf[symbol] = 0;
            table.lengthOf[symbol] = 0;
        }
        table.renew();
        dropAllRanges();
        bits.drop(bits.size);
        wasRead = false;
    }

    private static void needSymbol(int symbol) {
        if (symbol < 0 || symbol >= SYMBOLS) {
            throw new IndexOutOfBoundsException("there is no such symbol");
        }
    }

    private void needCodes() {
        if (table.state() == OVER_FULL) {
            throw new IllegalStateException("the table is over-full");
        }
    }

    private boolean tellLength(int symbol, int length) {
        table.lengthOf[symbol] = length;
        table.renew();
        return table.state() != OVER_FULL;
    }

    /** A symbol without a range tells itself, just as one with itself for a low number and no extra bits does. */
    private void dropRange(int symbol) {
        lowOf[symbol] = symbol;
        extraOf[symbol] = 0;
    }

    private void dropAllRanges() {
        for (int symbol = 0; symbol < SYMBOLS; symbol++) {
            dropRange(symbol);
        }
    }

    /** The value is kept as it was read: a range that is told later has nothing to do with the bits that went. */
    private int takeSymbol(int symbol) {
        int length = table.lengthOf[symbol];
        int extra = Math.abs(extraOf[symbol]);
        if (bits.size < length + extra) {
            return WAITS;
        }
        long further = bits.number(length, extra);
        long low = lowOf[symbol];
        lastValue = extraOf[symbol] < 0 ? low - further : low + further;
        wasRead = true;
        bits.drop(length + extra);
        return symbol;
    }

    private int numberTold(int at, int end) {
        int zeros = table.runOf(0, at, end);
        if (zeros >= LEAST_RUN) {
            return ZEROS + Math.min(zeros, MOST_ZEROS);
        }
        int again = at == 0 ? 0 : table.runOf(table.lengthOf[at - 1], at, end);
        if (again >= LEAST_RUN) {
            return AGAIN + Math.min(again, MOST_AGAIN);
        }
        return table.lengthOf[at];
    }

    private static int lengthsToldBy(int told) {
        if (told > ZEROS) {
            return told - ZEROS;
        }
        return told > AGAIN ? told - AGAIN : 1;
    }

    /** The lengths of all symbols, and what follows from them: the fill and, unless it is above 1, the codes. */
    private static final class Table {
        private static final int WHOLE = 1 << LONGEST;

        private final int rule;
        private final int[] lengthOf = new int[SYMBOLS];
        private final int[] codeOf = new int[SYMBOLS];
        private final int[] sharing = new int[LONGEST + 1];
        private final int[] nextCode = new int[LONGEST + 1];
        private int fill = 0;

        Table(int rule) {
            this.rule = rule;
        }

        int state() {
            if (fill > WHOLE) {
                return OVER_FULL;
            }
            return fill == WHOLE ? COMPLETE : INCOMPLETE;
        }

        /** To be called behind every change of lengths. */
        void renew() {
            countSharing();
            fill = 0;
            for (int length = 1; length <= LONGEST; length++) {
                fill += sharing[length] * (WHOLE >> length);
            }
            if (fill <= WHOLE) {
                giveCodes();
            }
        }

        private void countSharing() {
            for (int length = 0; length <= LONGEST; length++) {
                sharing[length] = 0;
            }
            for (int symbol = 0; symbol < SYMBOLS; symbol++) {
                sharing[lengthOf[symbol]]++;
            }
        }

        private void giveCodes() {
            if (rule == LONGEST_FIRST) {
                startLongestFirst();
            } else {
                startShortestFirst();
            }
            for (int symbol = 0; symbol < SYMBOLS; symbol++) {
                if (lengthOf[symbol] > 0) {
                    codeOf[symbol] = takeCode(lengthOf[symbol]);
                }
            }
        }

        private int takeCode(int length) {
            int code = nextCode[length];
            nextCode[length]++;
            return rule == INVERTED ? (1 << length) - 1 - code : code;
        }

        private void startShortestFirst() {
            int code = 0;
            for (int length = 1; length <= LONGEST; length++) {
                code = 2 * code;
                nextCode[length] = code;
                code += sharing[length];
            }
        }

        /** Bit by bit, half of an odd number is rounded up: in all, one more if a bit taken away was 1. */
        private void startLongestFirst() {
            int code = 0;
            for (int length = LONGEST; length >= 1; length--) {
                code = (code + 1) / 2;
                nextCode[length] = code;
                code += sharing[length];
            }
        }

        /** The least symbol whose code has these first n bits, or NONE. */
        int symbolBegunBy(int first, int n) {
            for (int symbol = 0; symbol < SYMBOLS; symbol++) {
                int behind = lengthOf[symbol] - n;
                if (behind >= 0 && codeOf[symbol] >> behind == first) {
                    return symbol;
                }
            }
            return NONE;
        }

        /** One more than the last symbol that has a length. */
        int endOfLengths() {
            int end = SYMBOLS;
            while (end > 0 && lengthOf[end - 1] == 0) {
                end--;
            }
            return end;
        }

        /** How many lengths from a place on, before the end, are this one. */
        int runOf(int length, int from, int end) {
            int at = from;
            while (at < end && lengthOf[at] == length) {
                at++;
            }
            return at - from;
        }
    }

    /** Makes lengths from counts, row by row; its arrays are made once and serve every making. */
    private static final class Making {
        private final int[] order = new int[SYMBOLS];
        /** Where in each row the symbols stand, in their order: all else in a row are pairs. */
        private final int[][] placeOf = new int[LONGEST][SYMBOLS];
        /** A row has all symbols and less than as many pairs. */
        private long[] row = new long[2 * SYMBOLS];
        private long[] nextRow = new long[2 * SYMBOLS];
        private int rowSize = 0;
        private int counted = 0;

        /** Puts the symbols with a count in the order of row 1: how many there are. */
        int sortSymbols(long[] countOf) {
            counted = 0;
            for (int symbol = SYMBOLS - 1; symbol >= 0; symbol--) {
                if (countOf[symbol] > 0) {
                    insert(symbol, countOf);
                }
            }
            return counted;
        }

        /** Behind those of the same count, which are greater symbols as they came before. */
        private void insert(int symbol, long[] countOf) {
            int at = counted;
            while (at > 0 && countOf[order[at - 1]] > countOf[symbol]) {
                order[at] = order[at - 1];
                at--;
            }
            order[at] = symbol;
            counted++;
        }

        /** For symbols that are sorted, and are no more than 2^most. */
        void makeLengths(long[] countOf, int most, int[] lengthOf) {
            for (int symbol = 0; symbol < SYMBOLS; symbol++) {
                lengthOf[symbol] = 0;
            }
            if (counted == 1) {
                lengthOf[order[0]] = 1;
            }
            if (counted < 2) {
                return;
            }
            rowSize = 0;
            for (int k = 0; k < most; k++) {
                buildRow(k, countOf);
            }
            countTaken(most, lengthOf);
        }

        /** The row behind an empty one has no pairs, and so is row 1. */
        private void buildRow(int k, long[] countOf) {
            int pairs = rowSize / 2;
            int symbolsPut = 0;
            int pairsPut = 0;
            rowSize = counted + pairs;
            for (int at = 0; at < rowSize; at++) {
                long pair = pairsPut < pairs ? row[2 * pairsPut] + row[2 * pairsPut + 1] : Long.MAX_VALUE;
                if (symbolsPut < counted && countOf[order[symbolsPut]] <= pair) {
                    placeOf[k][symbolsPut] = at;
                    nextRow[at] = countOf[order[symbolsPut]];
                    symbolsPut++;
                } else {
                    nextRow[at] = pair;
                    pairsPut++;
                }
            }
            long[] before = row;
            row = nextRow;
            nextRow = before;
        }

        /** The pairs that are taken of a row are the first ones, and so are those that they take of the row before. */
        private void countTaken(int most, int[] lengthOf) {
            int taken = 2 * counted - 2;
            for (int k = most - 1; k >= 0; k--) {
                int symbols = 0;
                while (symbols < counted && placeOf[k][symbols] < taken) {
                    lengthOf[order[symbols]]++;
                    symbols++;
                }
                taken = 2 * (taken - symbols);
            }
        }
    }

    /** The bits that wait, in a ring. */
    private static final class WaitingBits {
        private final int[] ring = new int[MOST_WAITING];
        private int start = 0;
        private int size = 0;

        boolean append(int bit) {
            if (size >= MOST_WAITING) {
                return false;
            }
            ring[(start + size) % MOST_WAITING] = bit;
            size++;
            return true;
        }

        /** The n bits behind the first ones, as a number; all of them must wait. */
        long number(int behind, int n) {
            long number = 0;
            for (int i = behind; i < behind + n; i++) {
                number = 2 * number + ring[(start + i) % MOST_WAITING];
            }
            return number;
        }

        void drop(int n) {
            start = (start + n) % MOST_WAITING;
            size -= n;
        }
    }
}
