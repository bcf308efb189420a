import java.util.List;

/**
 * Tells whether a call leaves all that can be seen of an object as it was: the object is looked at beside a twin of the
 * same history on which the call was not made. Each look has twins of its own, as some looks change what they look at,
 * and stays, behind a history of 403 calls, within the 512 calls that the document promises.
 */
final class Unchanged {
    interface History {
        BoundedCodes object();
    }

    interface Call {
        Object on(BoundedCodes x);
    }

    private interface Look {
        String at(BoundedCodes x);
    }

    private static final List<Look> LOOKS = List.of(
            x -> "lengths " + Some.lengthsOf(x, Some.SYMBOLS),
            x -> "codes " + Due.outcome(() -> Some.codesOf(x, Some.SYMBOLS)),
            x -> "lengths as a row " + Some.row(x) + ", check " + x.check() + ", waiting " + x.waiting() + ", sum "
                    + x.sum() + ", last " + Due.outcome(() -> x.last()),
            x -> "counts " + counts(x, 0, 24),
            x -> "counts " + counts(x, 24, 48),
            x -> "readings " + readings(x),
            x -> "readings of further bits " + furtherReadings(x));

    /** The call's answer, and that nothing changed. */
    static void by(Due due, String call, String answer, History history, Call made) {
        due.answer(call, Due.outcome(() -> made.on(history.object())), answer);
        same(due, call, () -> {
            BoundedCodes called = history.object();
            Due.outcome(() -> made.on(called));
            return called;
        }, history);
    }

    /** That what one history leaves looks as what another one does. */
    static void same(Due due, String call, History history, History other) {
        for (Look look : LOOKS) {
            due.answer("what is seen behind " + call, look.at(history.object()), look.at(other.object()));
        }
    }

    static void refused(Due due, String call, Class<? extends RuntimeException> thrown, History history, Call made) {
        by(due, call, "throws." + thrown.getSimpleName(), history, made);
    }

    /** No call tells a count, but the sum does, as it grows by the count when the length does by one. */
    private static String counts(BoundedCodes x, int from, int to) {
        StringBuilder all = new StringBuilder();
        for (int symbol = from; symbol < to; symbol++) {
            int length = x.length(symbol);
            x.given(symbol, length == 16 ? 15 : length + 1);
            all.append(" ").append(x.sum());
        }
        return all.toString();
    }

    private static String readings(BoundedCodes x) {
        mend(x);
        StringBuilder all = new StringBuilder();
        for (int i = 0; i < 25; i++) {
            all.append(" ").append(x.read()).append(" ").append(Due.outcome(() -> x.last()));
        }
        return all.append(" waiting ").append(x.waiting()).toString();
    }

    /** Bits that have each of the shortest codes, whichever the rule is, so that ranges of symbols are seen. */
    private static String furtherReadings(BoundedCodes x) {
        Some.feedAll(x, "0101101001011010");
        return readings(x);
    }

    /** An over-full table is not read by; histories that leave one make it so by this symbol. */
    private static void mend(BoundedCodes x) {
        if (x.check() == 2) {
            x.given(47, 0);
        }
    }
}
