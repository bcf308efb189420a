/**
 * All promises together: long runs of mixed calls, wrong ones among them, whose answers are compared with the model's.
 * The runs come from a fixed row of numbers, so that they are the same each time.
 */
public final class ModelTest {
    private static final int RUNS = 3000;
    private static final int CALLS = 512;
    private static final int[] ODD_SYMBOLS = {-1, 48, 0, 47, Integer.MIN_VALUE, Integer.MAX_VALUE, 64};
    private static final int[] ODD_LENGTHS = {-1, 17, 0, 16, Integer.MIN_VALUE, Integer.MAX_VALUE, 1};
    private static final int[] ODD_EXTRAS = {-33, 33, -32, 32, Integer.MIN_VALUE, Integer.MAX_VALUE, 0};
    private static final int[] ODD_LOWS = {Integer.MIN_VALUE, Integer.MAX_VALUE, 0, -1, 1};
    private static final int[] ODD_BITS = {-1, 2, Integer.MIN_VALUE, Integer.MAX_VALUE};
    private static final long[] ODD_COUNTS = {
        -1, 0, 1000000000L, 1000000001L, 999999999L, Long.MIN_VALUE, Long.MAX_VALUE, 1L << 32,
    };

    private final Due due;
    private final BoundedCodes x;
    private final Model model;
    private final String run;
    private final int symbols;
    private final int greatestCount;
    private final int usualLength;
    private final int mood;
    private long seed;

    private ModelTest(Due due, int number) {
        this.due = due;
        seed = number * 7919L + 12345;
        int rule = below(4) == 0 ? below(2000) - 1000 : below(3);
        run = "run " + number + ", rule " + rule;
        x = new BoundedCodes(rule);
        model = new Model(rule);
        symbols = 1 + below(48);
        int[] counts = {2, 4, 30, 1000, 1000000000};
        greatestCount = counts[below(counts.length)];
        usualLength = 1 + below(16);
        mood = below(4);
    }

    public static void main(String[] args) {
        Due due = new Due();
        for (int number = 0; number < RUNS; number++) {
            ModelTest test = new ModelTest(due, number);
            for (int call = 0; call < CALLS; call++) {
                test.call(call);
            }
        }
        due.end();
    }

    private int below(int bound) {
        seed = seed * 6364136223846793005L + 1442695040888963407L;
        return (int) ((seed >>> 33) % bound);
    }

    private int symbol() {
        return below(25) == 0 ? ODD_SYMBOLS[below(ODD_SYMBOLS.length)] : below(symbols);
    }

    private int length() {
        if (below(25) == 0) {
            return ODD_LENGTHS[below(ODD_LENGTHS.length)];
        }
        return below(3) == 0 ? below(17) : Math.min(16, usualLength + below(2));
    }

    private int extra() {
        if (below(12) == 0) {
            return ODD_EXTRAS[below(ODD_EXTRAS.length)];
        }
        return below(2) == 0 ? below(9) - 4 : below(65) - 32;
    }

    private long count() {
        if (below(20) == 0) {
            return ODD_COUNTS[below(ODD_COUNTS.length)];
        }
        int shape = below(4);
        return shape == 0 ? 1L << below(30) : shape == 1 ? 1 : below(greatestCount);
    }

    private void call(int number) {
        if (number > 0 && below(300) == 0) {
            x.clear();
            model.clear();
            return;
        }
        // A run begins with counts or lengths, and then goes by its mood: makings, tellings, readings or many bits.
        int kind = below(100);
        int tables = number < 60 ? 70 : new int[] {40, 50, 20, 6}[mood];
        if (kind < tables) {
            callOnTable(number);
        } else if (kind < tables + (100 - tables) / 3) {
            look();
        } else {
            callOnBits();
        }
    }

    private void callOnTable(int number) {
        if (model.check() == 2 && below(2) == 0) {
            int symbol = below(symbols);
            same("given(" + symbol + ", 0)", () -> x.given(symbol, 0), () -> model.given(symbol, 0));
        } else if (mood == 0 || mood == 3 && number < 60) {
            countOrMake();
        } else if (below(4) == 0) {
            countOrMake();
        } else {
            tell();
        }
    }

    private void countOrMake() {
        if (below(6) != 0) {
            int symbol = symbol();
            long n = count();
            same("count(" + symbol + ", " + n + ")", () -> x.count(symbol, n), () -> model.count(symbol, n));
        } else {
            int most = below(20) == 0 ? ODD_LENGTHS[below(ODD_LENGTHS.length)] : 1 + below(below(2) == 0 ? 16 : 7);
            same("make(" + most + ")", () -> x.make(most), () -> model.make(most));
        }
    }

    private void tell() {
        int symbol = symbol();
        int length = length();
        if (below(2) == 0) {
            same("given(" + symbol + ", " + length + ")", () -> x.given(symbol, length),
                    () -> model.given(symbol, length));
        } else {
            int low = below(4) == 0 ? ODD_LOWS[below(ODD_LOWS.length)] : below(2000) - 1000;
            int extra = extra();
            same("range(" + symbol + ", " + low + ", " + extra + ", " + length + ")",
                    () -> x.range(symbol, low, extra, length), () -> model.range(symbol, low, extra, length));
        }
    }

    private void look() {
        int symbol = symbol();
        switch (below(7)) {
            case 0 -> same("length(" + symbol + ")", () -> x.length(symbol), () -> model.length(symbol));
            case 1, 2 -> same("code(" + symbol + ")", () -> x.code(symbol), () -> model.code(symbol));
            case 3 -> same("check()", () -> x.check(), () -> model.check());
            case 4 -> same("sum()", () -> x.sum(), () -> model.sum());
            case 5 -> {
                int i = below(30) == 0 ? ODD_SYMBOLS[below(ODD_SYMBOLS.length)] : below(20);
                same("lengths(" + i + ")", () -> x.lengths(i), () -> model.lengths(i));
            }
            default -> same("waiting()", () -> x.waiting(), () -> model.waiting());
        }
    }

    private void callOnBits() {
        int kind = below(10);
        if (kind < (mood == 3 ? 9 : 6)) {
            int bit = below(50) == 0 ? ODD_BITS[below(ODD_BITS.length)] : below(2);
            same("feed(" + bit + ")", () -> x.feed(bit), () -> model.feed(bit));
        } else if (kind < 9) {
            same("read()", () -> x.read(), () -> model.read());
        } else {
            same("last()", () -> x.last(), () -> model.last());
        }
    }

    private void same(String call, Due.Call got, Due.Call wanted) {
        due.answer(run + ": " + call, Due.outcome(got), Due.outcome(wanted));
    }
}
