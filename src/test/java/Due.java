/**
 * What a test asks: it prints every call whose answer is not the one that is due, with the document's sentence that it
 * was asked for, and ends the test.
 */
final class Due {
    interface Call {
        Object run();
    }

    private int asked = 0;
    private int wrong = 0;
    private int askedForSentence = 1;
    private String sentence = "";

    /** What the answers from here on are asked for; one that nothing is asked for is a fault of the test. */
    void sentence(String words) {
        needAsked();
        sentence = words;
        askedForSentence = 0;
    }

    private void needAsked() {
        if (askedForSentence == 0) {
            wrong++;
            System.out.println("nothing was asked for: " + sentence);
        }
    }

    void answer(String call, long got, long due) {
        compare(call, Long.toString(got), Long.toString(due));
    }

    void answer(String call, boolean got, boolean due) {
        compare(call, Boolean.toString(got), Boolean.toString(due));
    }

    void answer(String call, String got, String due) {
        compare(call, got, due);
    }

    /** Exactly this class: a class below it would be what the Java machine itself throws. */
    void refusal(String call, Class<? extends RuntimeException> due, Call made) {
        compare(call, outcome(made), "throws." + due.getSimpleName());
    }

    static String outcome(Call made) {
        try {
            return String.valueOf(made.run());
        } catch (RuntimeException e) {
            return "throws." + e.getClass().getSimpleName();
        }
    }

    private void compare(String call, String got, String due) {
        asked++;
        askedForSentence++;
        if (!got.equals(due)) {
            wrong++;
            System.out.println(call + " answered " + got + ", due is " + due
                    + (sentence.isEmpty() ? "" : ", by: " + sentence));
        }
    }

    void end() {
        needAsked();
        System.out.println(asked + " answers asked, " + wrong + " not as due");
        if (wrong != 0 || asked == 0) {
            System.exit(1);
        }
    }
}
