/** Counts the answers that are not as due, and feeds whole texts. */
final class Due {
    private int wrong;
    private int asked;
    private String during = "";

    /** What is told ahead of each wrong answer from now on. */
    void during(String test) {
        during = test + ": ";
    }

    void is(String call, long want, long got) {
        asked++;
        if (got != want) {
            wrong++;
            System.out.println(during + call + " answered " + got + ", due is " + want);
        }
    }

    void holds(String what, boolean is) {
        asked++;
        if (!is) {
            wrong++;
            System.out.println(during + what + ": does not hold");
        }
    }

    /** All that was found is wrong. */
    void none(String what, Iterable<String> found) {
        asked++;
        for (String one : found) {
            wrong++;
            System.out.println(during + what + ": " + one);
        }
    }

    void text(LockTurns x, String text, int want) {
        feed(x, text);
        is("text() of '" + text + "'", want, x.text());
    }

    /** A text that is refused by a fault at a place. */
    void faulty(LockTurns x, String text, int fault, int place) {
        text(x, text, -10 - place);
        is("fault() of '" + text + "'", fault, x.fault());
    }

    /** The same of a new one. */
    void faulty(String text, int fault, int place) {
        faulty(new LockTurns(), text, fault, place);
    }

    /** A new one that takes a text of so many lines. */
    LockTurns taken(String text, int lines) {
        LockTurns x = new LockTurns();
        text(x, text, lines);
        is("fault() of '" + text + "'", 0, x.fault());
        return x;
    }

    static void feed(LockTurns x, String text) {
        for (int i = 0; i < text.length(); i++) {
            x.feed(text.charAt(i));
        }
    }

    static LockTurns told(String text) {
        LockTurns x = new LockTurns();
        feed(x, text);
        int lines = x.text();
        if (lines < 0) {
            throw new IllegalStateException("text() answered " + lines + " for '" + text + "'");
        }
        return x;
    }

    void end() {
        if (wrong != 0) {
            System.out.println(wrong + " of " + asked + " answers are not as due");
            System.exit(1);
        }
        System.out.println(asked + " answers, all as due");
    }
}
