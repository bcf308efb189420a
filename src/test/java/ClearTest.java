/** Promise 15: clear. */
public final class ClearTest {
    private static final String[] CODES = {"0 100 101", "1 011 010", "1 000 001"};

    public static void main(String[] args) {
        Due due = new Due();
        due.sentence("Counts, lengths, ranges and bits are as at first; none was read");
        leavesAllAsAtFirst(due);
        clearsWhatIsClear(due);
        due.sentence("Counts are as at first");
        takesCountsAway(due);
        due.sentence("lengths are as at first");
        takesLengthsAway(due);
        takesAnOverFullTableAway(due);
        due.sentence("ranges are as at first");
        takesRangesAway(due);
        due.sentence("bits are as at first");
        takesBitsAway(due);
        takesBitsAwayPastTheEnd(due);
        due.sentence("none was read");
        forgetsWhatWasRead(due);
        due.sentence("the rule stays");
        keepsTheRule(due);
        due.end();
    }

    /** Clear is due to leave each of these as a new object of the same rule is. */
    private static void leavesAllAsAtFirst(Due due) {
        asNew(due, "an ordinary object", Some::busy);
        asNew(due, "an object full of bits", Some::fullOfBits);
        asNew(due, "an over-full object", Some::busyOverFull);
        asNew(due, "an object with all that can be", ClearTest::fullest);
    }

    private static void asNew(Due due, String what, Unchanged.History history) {
        Unchanged.same(due, "clear() of " + what, () -> {
            BoundedCodes x = history.object();
            x.clear();
            return x;
        }, () -> new BoundedCodes(0));
    }

    private static BoundedCodes fullest() {
        BoundedCodes x = new BoundedCodes(3);
        for (int symbol = 0; symbol < Some.SYMBOLS; symbol++) {
            x.count(symbol, 1000000000L);
            x.range(symbol, Integer.MAX_VALUE, -32, 16);
        }
        Some.feedAll(x, "0".repeat(48) + "1".repeat(250));
        x.read();
        return x;
    }

    private static void clearsWhatIsClear(Due due) {
        Unchanged.by(due, "clear() of a new object", "cleared", () -> new BoundedCodes(0), x -> {
            x.clear();
            return "cleared";
        });
        Unchanged.by(due, "clear() again", "cleared", () -> {
            BoundedCodes x = Some.busy();
            x.clear();
            return x;
        }, x -> {
            x.clear();
            return "cleared";
        });
    }

    private static void takesCountsAway(Due due) {
        BoundedCodes x = new BoundedCodes(0);
        for (int symbol = 0; symbol < Some.SYMBOLS; symbol++) {
            x.count(symbol, 1000000000L);
        }
        x.clear();
        due.answer("make(1)", x.make(1), 0);
        for (int symbol = 0; symbol < Some.SYMBOLS; symbol++) {
            due.answer("count(" + symbol + ", 0)", x.count(symbol, 0), false);
        }
    }

    private static void takesLengthsAway(Due due) {
        BoundedCodes x = new BoundedCodes(0);
        for (int symbol = 0; symbol < Some.SYMBOLS; symbol++) {
            x.given(symbol, 16);
        }
        x.clear();
        for (int symbol = 0; symbol < Some.SYMBOLS; symbol++) {
            due.answer("length(" + symbol + ")", x.length(symbol), 0);
            due.answer("code(" + symbol + ")", x.code(symbol), BoundedCodes.NONE);
        }
        due.answer("lengths(0)", x.lengths(0), BoundedCodes.NONE);
        due.answer("check()", x.check(), 1);
    }

    private static void takesAnOverFullTableAway(Due due) {
        BoundedCodes x = Some.overFull();
        x.feed(1);
        x.clear();
        due.answer("check() of what was over-full", x.check(), 1);
        due.answer("read() of what was over-full", x.read(), BoundedCodes.WAITS);
        due.answer("code(0) of what was over-full", x.code(0), BoundedCodes.NONE);
    }

    private static void takesRangesAway(Due due) {
        for (int symbol = 0; symbol < Some.SYMBOLS; symbol++) {
            BoundedCodes x = new BoundedCodes(0);
            x.range(symbol, 100, symbol % 2 == 0 ? 3 : -3, 1);
            x.clear();
            x.count(symbol, 1);
            x.make(1);
            x.feed(0);
            due.answer("read() of symbol " + symbol, x.read(), symbol);
            due.answer("last() of symbol " + symbol, x.last(), symbol);
        }
        BoundedCodes y = Some.busy();
        y.clear();
        y.given(1, 1);
        y.feed(0);
        due.answer("read()", y.read(), 1);
        due.answer("last()", y.last(), 1);
    }

    private static void takesBitsAway(Due due) {
        BoundedCodes x = Some.fullOfBits();
        x.clear();
        due.answer("waiting()", x.waiting(), 0);
        due.answer("read() without bits", x.read(), BoundedCodes.WAITS);
        due.answer("feed(1)", x.feed(1), true);
        x.given(5, 1);
        x.given(6, 1);
        due.answer("read() of the only bit", x.read(), 6);
        due.answer("read() of no more", x.read(), BoundedCodes.WAITS);
    }

    /** Clears when the bits that wait stand across the end of what holds them. */
    private static void takesBitsAwayPastTheEnd(Due due) {
        BoundedCodes x = Some.fullOfBits();
        x.read();
        Some.feedAll(x, "1111111");
        x.clear();
        due.answer("waiting()", x.waiting(), 0);
        x.range(5, 0, 15, 1);
        Some.feedAll(x, "0000000000000001");
        due.answer("read()", x.read(), 5);
        due.answer("last()", x.last(), 1);
        due.answer("waiting()", x.waiting(), 0);
    }

    private static void forgetsWhatWasRead(Due due) {
        BoundedCodes x = Some.busy();
        due.answer("last() before it", x.last(), 103);
        x.clear();
        due.refusal("last()", IllegalArgumentException.class, () -> x.last());
        x.read();
        due.refusal("last() behind WAITS", IllegalArgumentException.class, () -> x.last());
    }

    private static void keepsTheRule(Due due) {
        for (int rule = 0; rule < 3; rule++) {
            BoundedCodes x = Some.withLengths(rule, 2, 2, 1);
            Some.feedAll(x, "0101");
            x.read();
            x.clear();
            x.given(0, 1);
            x.given(1, 3);
            x.given(2, 3);
            due.answer("codes by rule " + rule, Some.codesOf(x, 3), CODES[rule]);
            Some.feedAll(x, CODES[rule].substring(0, 1));
            due.answer("read()", x.read(), 0);
            due.answer("last()", x.last(), 0);
        }
    }
}
