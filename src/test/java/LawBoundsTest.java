/** Each sentence of promises 19 to 26 that names a boundary, held by a test of its own. */
public final class LawBoundsTest {
    private static final int BAD = LockTurns.BAD, NONE = LockTurns.NONE;
    private static final int ALL_LAWS = 31, ALL_BUT_CARGO = 23;
    private static final int GATE = 0, CARGO = 3;
    /** By each set of liars one of the two from above gains: who lies first makes the other one lie, and so on. */
    private static final String NO_REST = "lock 2 8 1;above coal 4 8 0;above coal 4 4 0;below mail 4 0 0;law cargo;";
    /** Five that carry mail and one with coal behind them, all from above. */
    private static final String COAL_LAST = "above mail0 1 0;above mail0 1 0;above mail0 1 0;above mail0 1 0;"
            + "above mail0 1 0;above coal0 1 0;law cargo;";
    private static final Due due = new Due();

    public static void main(String[] args) {
        Sentences.run(LawBoundsTest.class, due, 19, 26);
    }

    private static LockTurns allCoal(int n) {
        LockTurns x = Sentences.boats(n);
        for (int b = 0; b < n; b++) {
            x.alter(b, 1, 3);
        }
        x.set(3, CARGO);
        return x;
    }

    // ---- firsts

    @Says(promise = 19, value = "LAWS by which a BOAT passes first of all (bits). BAD.")
    static void firstsOfNoneToSixBoats() {
        for (int n = 0; n <= 6; n++) {
            LockTurns x = Sentences.boats(n);
            due.is("firsts(-1)", BAD, x.firsts(-1));
            due.is("firsts(" + n + ")", BAD, x.firsts(n));
            for (int far : Sentences.FAR) {
                due.is("firsts(" + far + ")", BAD, x.firsts(far));
            }
            for (int b = 0; b < n; b++) {
                due.is("firsts(" + b + ")", b == 0 ? ALL_LAWS : 0, x.firsts(b));
            }
        }
    }

    @Says(promise = 19, value = "LAWS by which a BOAT passes first of all (bits). BAD.")
    static void firstsWhateverTheLaw() {
        LockTurns x = Due.told("below coal 0 1 0;above fish 0 1 0;below fish 0 1 0;");
        for (int law = 0; law < 5; law++) {
            x.set(3, law);
            due.is("gate, queue", 1 + 16, x.firsts(0));
            due.is("ready, twos, cargo", 2 + 4 + 8, x.firsts(1));
            due.is("none", 0, x.firsts(2));
            due.is("the law stays", law, x.rule(3));
        }
    }

    @Says(promise = 19, value = "LAWS by which a BOAT passes first of all (bits). BAD.")
    static void firstsOfLiars() {
        LockTurns x = Due.told("above coal 0 1 0;above fish 0 1 0;");
        due.is("all but cargo", ALL_BUT_CARGO, x.firsts(0));
        due.is("cargo", 8, x.firsts(1));
        x.lie(0, true);
        due.is("all", ALL_LAWS, x.firsts(0));
        due.is("none", 0, x.firsts(1));
    }

    // ---- gain

    @Says(promise = 20, value = "1000 and by how many minutes it STOOD less, would a BOAT LIE that does not, "
            + "would it not that does. BAD.")
    static void gainOfNoneToSixBoats() {
        for (int n = 0; n <= 6; n++) {
            LockTurns x = allCoal(n);
            due.is("gain(-1)", BAD, x.gain(-1));
            due.is("gain(" + n + ")", BAD, x.gain(n));
            for (int far : Sentences.FAR) {
                due.is("gain(" + far + ")", BAD, x.gain(far));
            }
            for (int b = 0; b < n; b++) {
                due.is("gain(" + b + ")", 1000 + 7 * b, x.gain(b));
                x.lie(b, true);
                due.is("gain(" + b + ") of a liar", 1000 - 7 * b, x.gain(b));
                x.lie(b, false);
            }
        }
    }

    @Says(promise = 20, value = "1000 and by how many minutes it STOOD less")
    static void gainOfTheMostAndTheLeast() {
        LockTurns x = Due.told("lock 9 9 0;" + COAL_LAST);
        for (int b = 0; b < 5; b++) {
            x.alter(b, 1, 1);
        }
        due.is("gain(5)", 1090, x.gain(5));
        x.lie(5, true);
        due.is("gain(5) of a liar", 910, x.gain(5));
        LockTurns y = Due.told(NO_REST);
        due.is("one who would stand longer by lying", 1000 - 6, y.gain(0));
        y.lie(0, true);
        due.is("a liar who would gain by telling the truth", 1000 + 6, y.gain(0));
    }

    @Says(promise = 20, value = "would a BOAT LIE that does not, would it not that does")
    static void gainByLawsThatDoNotAsk() {
        LockTurns x = allCoal(6);
        for (int law = 0; law < 5; law++) {
            x.set(3, law);
            due.is("gain(5) by law " + law, law == CARGO ? 1035 : 1000, x.gain(5));
        }
        x.set(3, CARGO);
        due.is("the liars stay", 0, x.rule(7));
    }

    // ---- calm, rests

    @Says(promise = 21, value = "LAWS by which no BOAT gains so, LIES being as they are (bits).")
    static void calmOfNoneToSixBoats() {
        for (int n = 0; n <= 6; n++) {
            LockTurns x = allCoal(n);
            due.is("calm()", n < 2 ? ALL_LAWS : ALL_BUT_CARGO, x.calm());
            for (int b = 0; b < n; b++) {
                x.lie(b, true);
            }
            due.is("calm(), all lie", ALL_LAWS, x.calm());
            for (int b = 0; b < n; b++) {
                x.lie(b, false);
                x.alter(b, 1, 0);
            }
            due.is("calm(), all carry mail", ALL_LAWS, x.calm());
        }
    }

    @Says(promise = 21, value = "LAWS by which no BOAT gains so, LIES being as they are (bits).")
    static void calmByNoMinuteOrByOne() {
        LockTurns x = Due.told("lock 1 0 0;above fish 0 1 0;above coal 0 1 0;");
        due.is("the second one gains a minute", ALL_BUT_CARGO, x.calm());
        x.alter(1, 2, 1);
        due.is("it comes when the lock is free", ALL_LAWS, x.calm());
        x.alter(1, 2, 0);
        x.lie(0, true);
        due.is("the first one lies too", ALL_LAWS, x.calm());
        x.lie(0, false);
        x.lie(1, true);
        due.is("the first one gains a minute", ALL_BUT_CARGO, x.calm());
        LockTurns y = Due.told(NO_REST + "liar 0;");
        due.is("a liar that gains by the truth", ALL_BUT_CARGO, y.calm());
    }

    @Says(promise = 22, value = "how many (what 0), the least by bits (1). BAD; NONE (1): there is none.")
    static void restsBounds() {
        for (int n = 0; n <= 6; n++) {
            LockTurns x = Sentences.boats(n);
            due.is("rests(-1)", BAD, x.rests(-1));
            due.is("rests(2)", BAD, x.rests(2));
            for (int far : Sentences.FAR) {
                due.is("rests(" + far + ")", BAD, x.rests(far));
            }
            for (int law = 0; law < 5; law++) {
                x.set(3, law);
                due.is("rests(0), all carry mail", 1 << n, x.rests(0));
                due.is("rests(1), all carry mail", 0, x.rests(1));
            }
        }
    }

    /** Only the last one has nothing ahead that it could pass by lying, if all ahead of it lie. */
    @Says(promise = 22, value = "Sets of liars by which, by the LAW, no BOAT gains so")
    static void restsOfCoal() {
        for (int n = 1; n <= 6; n++) {
            LockTurns x = allCoal(n);
            x.lie(0, true);
            due.is("rests(0)", 2, x.rests(0));
            due.is("rests(1)", (1 << n - 1) - 1, x.rests(1));
            due.is("the liars stay", 1, x.rule(7));
            x.set(3, GATE);
            due.is("rests(0) by gate", 1 << n, x.rests(0));
        }
    }

    @Says(promise = 22, value = "NONE (1): there is none.")
    static void restsOfNone() {
        for (int liars = 0; liars < 8; liars++) {
            LockTurns x = Due.told(NO_REST);
            for (int b = 0; b < 3; b++) {
                x.lie(b, (liars >> b & 1) == 1);
            }
            due.is("rests(0)", 0, x.rests(0));
            due.is("rests(1)", NONE, x.rests(1));
            due.is("rests(2)", BAD, x.rests(2));
        }
    }

    // ---- boy

    @Says(promise = 23, value = "BAD (also alike); NONE: by none.")
    static void boyOfNoneToSixBoats() {
        for (int n = 0; n <= 6; n++) {
            LockTurns x = Sentences.boats(n);
            for (int b = -1; b <= n; b++) {
                due.is("boy(" + b + ", -1)", BAD, x.boy(b, -1));
                due.is("boy(-1, " + b + ")", BAD, x.boy(-1, b));
                due.is("boy(" + b + ", " + n + ")", BAD, x.boy(b, n));
                due.is("boy(" + n + ", " + b + ")", BAD, x.boy(n, b));
                due.is("boy(" + b + ", " + b + ")", BAD, x.boy(b, b));
            }
            for (int far : Sentences.FAR) {
                due.is("boy(" + far + ", 0)", BAD, x.boy(far, 0));
                due.is("boy(0, " + far + ")", BAD, x.boy(0, far));
            }
            if (n > 1) {
                due.is("boy(0, " + (n - 1) + ")", 0, x.boy(0, n - 1));
                due.is("boy(" + (n - 1) + ", 0)", NONE, x.boy(n - 1, 0));
            }
        }
    }

    @Says(promise = 23, value = "The least BOY (0 to 9) of a BOAT by which it passes ahead of another one.")
    static void boyFromNoughtToNine() {
        for (int later = 0; later <= 11; later++) {
            for (int has = 0; has <= 9; has += 9) {
                LockTurns x = Due.told("hand;above coal " + (2 + later) + " 1 0;above mail 2 1 0;");
                x.alter(0, 4, has);
                due.is("as early is ahead by number", later <= 9 ? later : NONE, x.boy(0, 1));
                due.is("the boy stays", has, x.boat(0, 4));
                LockTurns y = Due.told("hand;above mail 2 1 0;above coal " + (1 + later) + " 1 0;");
                y.alter(1, 4, has);
                due.is("it must be earlier", later <= 9 ? later : NONE, y.boy(1, 0));
            }
        }
    }

    @Says(promise = 23, value = "NONE: by none.")
    static void boyWhoseHandDoesNotCount() {
        LockTurns x = Due.told("above coal 3 1 9;above mail 2 1 0;");
        due.is("boy(0, 1)", NONE, x.boy(0, 1));
        due.is("boy(1, 0)", 0, x.boy(1, 0));
        for (int post = 0; post <= 8; post++) {
            LockTurns y = Due.told("hand;above coal 20 1 0;above mail 19 1 0;");
            y.set(4, post);
            due.is("further out than the post " + post, post + 1, y.boy(0, 1));
            y.set(4, 9);
            due.is("none is further out than the post", NONE, y.boy(0, 1));
        }
    }

    // ---- post

    @Says(promise = 24, value = "of several the least (what 0), that COST (1). BAD.")
    static void postBounds() {
        for (int n = 0; n <= 6; n++) {
            LockTurns x = Sentences.boats(n);
            due.is("post(-1)", BAD, x.post(-1));
            due.is("post(2)", BAD, x.post(2));
            for (int far : Sentences.FAR) {
                due.is("post(" + far + ")", BAD, x.post(far));
            }
            for (int post = 0; post <= 9; post++) {
                x.set(4, post);
                due.is("post(0), all alike", 0, x.post(0));
                due.is("post(1)", 7 * n * (n - 1) / 2, x.post(1));
                due.is("the post stays", post, x.rule(4));
            }
        }
    }

    @Says(promise = 24, value = "The POST (0 to 9) by which COST of the DAY is least")
    static void postFromNoughtToNine() {
        for (int turn = 0; turn <= 9; turn++) {
            LockTurns x = Due.told("below mail 20 3 0;");
            x.set(1, turn);
            due.is("it is turned ahead in time", turn, x.post(0));
            due.is("post(1)", 0, x.post(1));
            x.alter(0, 2, 3);
            due.is("not ahead of 0", Math.min(turn, 3), x.post(0));
            due.is("post(1)", turn <= 3 ? 0 : 3 * (turn - 3), x.post(1));
        }
    }

    // ---- late

    @Says("BAD -1 (a number is not as told, there is no such BOAT, LAW, IMAGE, SHEET)")
    static void lateOfNoneToSixBoats() {
        for (int n = 0; n <= 6; n++) {
            LockTurns x = Sentences.boats(n);
            due.is("late(-1)", BAD, x.late(-1));
            due.is("late(" + n + ")", BAD, x.late(n));
            for (int far : Sentences.FAR) {
                due.is("late(" + far + ")", BAD, x.late(far));
            }
            for (int b = 0; b < n; b++) {
                due.is("late(" + b + "), others go ahead at once", b < n - 1 ? 0 : b == 0 ? 0 : 7 * b - 2, x.late(b));
                due.is("it arrives as told", 0, x.boat(b, 2));
            }
        }
    }

    /** The last one stands so long; a post far out, so that the lock is turned for it in time. */
    private static void lateBehindMail(String lock, int stood, int late) {
        LockTurns x = Due.told(lock + COAL_LAST + "post 9;");
        due.is("stood(5)", stood, x.stood(5));
        due.is("late(5), " + lock, late, x.late(5));
    }

    @Says(promise = 25, value = "By how many minutes (0 to 60) at most a BOAT could ARRIVE later "
            + "and be THROUGH no later than now. BAD.")
    static void lateUpToSixty() {
        lateBehindMail("lock 1 0 0;", 5, 5);
        lateBehindMail("lock 7 4 1;", 59, 59);
        lateBehindMail("lock 6 5 1;", 60, 60);
        lateBehindMail("lock 5 6 1;", 61, 60);
        lateBehindMail("lock 9 9 1;", 99, 60);
    }

    @Says(promise = 25, value = "By how many minutes (0 to 60) at most a BOAT could ARRIVE later "
            + "and be THROUGH no later than now. BAD.")
    static void lateOfOneAlone() {
        LockTurns x = Due.told("below mail 0 1 0;");
        due.is("it is turned when it counts", 0, x.late(0));
        x.set(4, 1);
        due.is("it counts as early", 1, x.late(0));
        x.set(4, 9);
        due.is("it counts as early, but it must be there", 2, x.late(0));
        x.set(2, 1);
        due.is("it does not stand", 0, x.late(0));
    }

    /** A minute later it is turned a minute later; four later the other one goes ahead and turns it. */
    @Says(promise = 25, value = "at most")
    static void lateBeyondMinutesThatAreTooLate() {
        LockTurns x = Due.told("lock 2 7 0;above fish 4 5 0;below fish 0 5 0;law ready;");
        due.is("through(1)", 9, x.through(1));
        int[] through = {9, 10, 11, 12, 8, 8, 8, 9, 10};
        for (int later = 0; later <= 8; later++) {
            LockTurns y = Due.told("lock 2 7 0;above fish 4 5 0;below fish " + later + " 5 0;law ready;");
            due.is("through(1), later by " + later, through[later], y.through(1));
        }
        due.is("late(1)", 7, x.late(1));
    }

    // ---- deal

    @Says(promise = 26, value = "BAD (also alike).")
    static void dealOfNoneToSixBoats() {
        for (int n = 0; n <= 6; n++) {
            LockTurns x = Sentences.boats(n);
            for (int b = -1; b <= n; b++) {
                due.is("deal(" + b + ", -1, 0)", BAD, x.deal(b, -1, 0));
                due.is("deal(-1, " + b + ", 0)", BAD, x.deal(-1, b, 0));
                due.is("deal(" + b + ", " + n + ", 1)", BAD, x.deal(b, n, 1));
                due.is("deal(" + n + ", " + b + ", 1)", BAD, x.deal(n, b, 1));
                due.is("deal(" + b + ", " + b + ", 2)", BAD, x.deal(b, b, 2));
            }
            for (int far : Sentences.FAR) {
                due.is("deal(" + far + ", 0, 0)", BAD, x.deal(far, 0, 0));
                due.is("deal(0, " + far + ", 0)", BAD, x.deal(0, far, 0));
            }
            if (n > 1) {
                int by = 7 * (n - 1);
                due.is("deal(0, " + (n - 1) + ", 0)", 10000 - by, x.deal(0, n - 1, 0));
                due.is("deal(0, " + (n - 1) + ", 1)", 10000 + by, x.deal(0, n - 1, 1));
                due.is("deal(0, " + (n - 1) + ", 2)", 10000, x.deal(0, n - 1, 2));
                due.is("deal(" + (n - 1) + ", 0, 0)", 10000 + by, x.deal(n - 1, 0, 0));
                due.is("deal(" + (n - 1) + ", 0, 1)", 10000 - by, x.deal(n - 1, 0, 1));
            }
        }
    }

    @Says(promise = 26, value = "10000 and what the first one's STOOD times WORTH is less by (what 0), "
            + "the second one's (1), that of all (2).")
    static void dealBounds() {
        LockTurns x = Due.told("lock 9 9 0;above mail 0 0 0;above mail 0 9 0;");
        due.is("deal(0, 1, -1)", BAD, x.deal(0, 1, -1));
        due.is("deal(0, 1, 3)", BAD, x.deal(0, 1, 3));
        for (int far : Sentences.FAR) {
            due.is("deal(0, 1, " + far + ")", BAD, x.deal(0, 1, far));
        }
        due.is("a minute costs it nothing", 10000, x.deal(0, 1, 0));
        due.is("what it gains", 10162, x.deal(0, 1, 1));
        due.is("what all gain", 10162, x.deal(0, 1, 2));
        x.alter(0, 3, 9);
        x.alter(1, 3, 0);
        due.is("what it loses", 9838, x.deal(0, 1, 0));
        due.is("a minute costs it nothing", 10000, x.deal(0, 1, 1));
        due.is("what all lose", 9838, x.deal(0, 1, 2));
    }

    @Says(promise = 26, value = "Two BOATS change places in the order in which BOATS pass now (then as by order())")
    static void dealWaitsForEach() {
        LockTurns x = Due.told("above mail 0 1 0;above mail 50 1 0;above mail 1 1 0;");
        due.is("now 0, 2, 1, then 1, 2, 0", 10000 - 64, x.deal(0, 1, 0));
        due.is("now turned at 50, then at once", 10002, x.deal(0, 1, 1));
        due.is("the third one stands too", 10000 + 8 - 120, x.deal(0, 1, 2));
        for (int b = 0; b < 3; b++) {
            due.is("they pass as before", b == 0 ? 0 : 3 - b, x.passes(b));
        }
    }
}
