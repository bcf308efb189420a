import java.util.ArrayList;
import java.util.Arrays;
import java.util.List;

/** The document once more, word by word and without regard to cost: codes and bits are texts, rows are lists. */
final class Model {
    private static final int SYMBOLS = 48;

    private final int rule;
    private final long[] counts = new long[SYMBOLS];
    private final int[] lengths = new int[SYMBOLS];
    private final int[][] ranges = new int[SYMBOLS][];
    private String bits = "";
    private Long last = null;

    Model(int rule) {
        int least = rule % 3;
        this.rule = least < 0 ? least + 3 : least;
    }

    boolean count(int symbol, long n) {
        symbolOrThrow(symbol);
        argument(n >= 0 && n <= 1000000000L);
        boolean another = counts[symbol] != n;
        counts[symbol] = n;
        return another;
    }

    int make(int most) {
        argument(most >= 1 && most <= 16);
        List<Item> first = new ArrayList<>();
        for (int symbol = SYMBOLS - 1; symbol >= 0; symbol--) {
            if (counts[symbol] > 0) {
                first.add(new Item(counts[symbol], symbol, null, null));
            }
        }
        if (first.size() > Math.pow(2, most)) {
            return -1;
        }
        first.sort((a, b) -> Long.compare(a.count(), b.count()));
        Arrays.fill(lengths, 0);
        Arrays.fill(ranges, null);
        if (first.size() == 1) {
            lengths[first.get(0).symbol()] = 1;
        } else {
            List<Item> row = first;
            for (int k = 1; k < most; k++) {
                row = rowBehind(first, row);
            }
            for (int i = 0; i < 2 * first.size() - 2; i++) {
                row.get(i).countSymbols(lengths);
            }
        }
        return first.size();
    }

    /** The sort is stable: of one count symbols stay before pairs, and each of these as they stood. */
    private static List<Item> rowBehind(List<Item> symbols, List<Item> row) {
        List<Item> next = new ArrayList<>(symbols);
        for (int i = 0; i + 1 < row.size(); i += 2) {
            Item a = row.get(i);
            Item b = row.get(i + 1);
            next.add(new Item(a.count() + b.count(), -1, a, b));
        }
        next.sort((a, b) -> Long.compare(a.count(), b.count()));
        return next;
    }

    private record Item(long count, int symbol, Item a, Item b) {
        void countSymbols(int[] lengths) {
            if (a == null) {
                lengths[symbol]++;
            } else {
                a.countSymbols(lengths);
                b.countSymbols(lengths);
            }
        }
    }

    int length(int symbol) {
        symbolOrThrow(symbol);
        return lengths[symbol];
    }

    long code(int symbol) {
        symbolOrThrow(symbol);
        state();
        String code = codes()[symbol];
        return code == null ? -1 : Long.parseLong(code, 2);
    }

    boolean given(int symbol, int length) {
        symbolOrThrow(symbol);
        argument(length >= 0 && length <= 16);
        lengths[symbol] = length;
        ranges[symbol] = null;
        return check() != 2;
    }

    boolean range(int symbol, int low, int extra, int length) {
        symbolOrThrow(symbol);
        argument(length >= 1 && length <= 16 && extra >= -32 && extra <= 32);
        lengths[symbol] = length;
        ranges[symbol] = new int[] {low, extra};
        return check() != 2;
    }

    int check() {
        double fill = 0;
        for (int length : lengths) {
            fill += length == 0 ? 0 : Math.pow(0.5, length);
        }
        return fill > 1 ? 2 : fill == 1 ? 0 : 1;
    }

    boolean feed(int bit) {
        argument(bit == 0 || bit == 1);
        if (bits.length() == 400) {
            return false;
        }
        bits = bits + bit;
        return true;
    }

    int read() {
        state();
        String[] codes = codes();
        for (int symbol = 0; symbol < SYMBOLS; symbol++) {
            if (codes[symbol] != null && bits.startsWith(codes[symbol])) {
                return readSymbol(symbol, codes[symbol].length());
            }
        }
        if (bits.isEmpty() || begins(codes, bits)) {
            return -1;
        }
        int n = 1;
        while (begins(codes, bits.substring(0, n))) {
            n++;
        }
        bits = bits.substring(n);
        return -2;
    }

    private int readSymbol(int symbol, int length) {
        int[] range = ranges[symbol];
        int extra = range == null ? 0 : Math.abs(range[1]);
        if (bits.length() < length + extra) {
            return -1;
        }
        String further = bits.substring(length, length + extra);
        long told = further.isEmpty() ? 0 : Long.parseLong(further, 2);
        last = range == null ? symbol : range[1] < 0 ? range[0] - told : range[0] + told;
        bits = bits.substring(length + extra);
        return symbol;
    }

    private static boolean begins(String[] codes, String first) {
        for (String code : codes) {
            if (code != null && code.startsWith(first)) {
                return true;
            }
        }
        return false;
    }

    long last() {
        argument(last != null);
        return last;
    }

    int waiting() {
        return bits.length();
    }

    long sum() {
        long sum = 0;
        for (int symbol = 0; symbol < SYMBOLS; symbol++) {
            sum += counts[symbol] * lengths[symbol];
        }
        return sum;
    }

    int lengths(int i) {
        List<Integer> left = new ArrayList<>();
        for (int length : lengths) {
            left.add(length);
        }
        while (!left.isEmpty() && left.get(left.size() - 1) == 0) {
            left.remove(left.size() - 1);
        }
        List<Integer> row = new ArrayList<>();
        int before = -1;
        while (!left.isEmpty()) {
            int zeros = Math.min(run(left, 0), 138);
            int again = Math.min(run(left, before), 6);
            int told = zeros >= 3 ? zeros : again >= 3 ? again : 1;
            row.add(zeros >= 3 ? 200 + zeros : again >= 3 ? 100 + again : left.get(0));
            before = left.get(told - 1);
            left.subList(0, told).clear();
        }
        return i >= 0 && i < row.size() ? row.get(i) : -1;
    }

    private static int run(List<Integer> left, int length) {
        int n = 0;
        while (n < left.size() && left.get(n) == length) {
            n++;
        }
        return n;
    }

    void clear() {
        Arrays.fill(counts, 0);
        Arrays.fill(lengths, 0);
        Arrays.fill(ranges, null);
        bits = "";
        last = null;
    }

    private String[] codes() {
        String[] codes = new String[SYMBOLS];
        String before = null;
        for (int step = 1; step <= 16; step++) {
            int length = rule == 2 ? 17 - step : step;
            for (int symbol = 0; symbol < SYMBOLS; symbol++) {
                if (lengths[symbol] == length) {
                    before = before == null ? "0".repeat(length) : next(before, length);
                    codes[symbol] = before;
                }
            }
        }
        for (int symbol = 0; symbol < SYMBOLS && rule == 1; symbol++) {
            codes[symbol] = codes[symbol] == null ? null
                    : codes[symbol].replace('0', 'x').replace('1', '0').replace('x', '1');
        }
        return codes;
    }

    private static String next(String before, int length) {
        String more = oneMore(before);
        if (length >= before.length()) {
            return more + "0".repeat(length - before.length());
        }
        // One more may have a bit more than before: what is taken away is counted from behind.
        int kept = more.length() - (before.length() - length);
        String taken = more.substring(kept);
        return taken.contains("1") ? oneMore(more.substring(0, kept)) : more.substring(0, kept);
    }

    private static String oneMore(String code) {
        int zero = code.lastIndexOf('0');
        if (zero < 0) {
            return "1" + "0".repeat(code.length());
        }
        return code.substring(0, zero) + "1" + "0".repeat(code.length() - zero - 1);
    }

    private static void symbolOrThrow(int symbol) {
        if (symbol < 0 || symbol >= SYMBOLS) {
            throw new IndexOutOfBoundsException();
        }
    }

    private static void argument(boolean good) {
        if (!good) {
            throw new IllegalArgumentException();
        }
    }

    private void state() {
        if (check() == 2) {
            throw new IllegalStateException();
        }
    }
}
