/** Each sentence of "Terms", from the first to the last, with answers worked out by hand from its words. */
public final class TermsTest {
    private static final int BAD = -1, STATE = -2, FULL = -3, NONE = -4;
    private static final Due due = new Due();

    public static void main(String[] args) {
        Sentences.run(TermsTest.class, due, 0, 0);
    }

    /** Asked by passes(i) for each i. */
    private static void passing(LockTurns x, int... boats) {
        due.is("BOATS", boats.length, x.rule(6));
        for (int i = 0; i < boats.length; i++) {
            due.is("passes(" + i + ")", boats[i], x.passes(i));
        }
    }

    private static void through(LockTurns x, int... minutes) {
        for (int b = 0; b < minutes.length; b++) {
            due.is("through(" + b + ")", minutes[b], x.through(b));
        }
    }

    private static void stood(LockTurns x, int... minutes) {
        for (int b = 0; b < minutes.length; b++) {
            due.is("stood(" + b + ")", minutes[b], x.stood(b));
        }
    }

    private static void rules(LockTurns x, int... are) {
        for (int what = 0; what < are.length; what++) {
            due.is("rule(" + what + ")", are[what], x.rule(what));
        }
    }

    private static void marks(LockTurns x, int b, int... are) {
        for (int what = 0; what < are.length; what++) {
            due.is("boat(" + b + ", " + what + ")", are[what], x.boat(b, what));
        }
    }

    private static void mean(LockTurns x, int v, int b, long above, long below) {
        due.is("mean(" + v + ", " + b + ", 0)", above, x.mean(v, b, 0));
        due.is("mean(" + v + ", " + b + ", 1)", below, x.mean(v, b, 1));
    }

    private static void luck(LockTurns x, int v, int b, int i, long above, long below) {
        due.is("luck(" + v + ", " + b + ", " + i + ", 0)", above, x.luck(v, b, i, 0));
        due.is("luck(" + v + ", " + b + ", " + i + ", 1)", below, x.luck(v, b, i, 1));
    }

    // ---- the answers

    @Says("Answers: BAD -1 (a number is not as told, there is no such BOAT, LAW, IMAGE, SHEET), STATE -2 (as told), "
            + "FULL -3, NONE -4 (there is none), the first that fits;")
    static void answers() {
        due.is("BAD", BAD, LockTurns.BAD);
        due.is("STATE", STATE, LockTurns.STATE);
        due.is("FULL", FULL, LockTurns.FULL);
        due.is("NONE", NONE, LockTurns.NONE);
        LockTurns x = Due.told("law cargo;above fish 0 1 0;above coal 0 1 0;");
        due.is("a number is not as told", BAD, x.set(0, 10));
        due.is("no such boat", BAD, x.through(2));
        due.is("no such law", BAD, x.table(5, 0));
        due.is("no such image", BAD, x.keep(2));
        due.is("no such sheet", BAD, x.lay(4, 0, 0));
        due.is("no image 0 is kept", STATE, x.back(0));
        due.is("BAD fits ahead of STATE", BAD, x.back(2));
        for (int i = 1; i <= 6; i++) {
            due.is("see(1, 1)", i, x.see(1, 1));
        }
        due.is("a seventh is seen", FULL, x.see(1, 1));
        due.is("BAD fits ahead of FULL", BAD, x.see(1, 2));
        due.is("coal has no boy by which it passes ahead of fish", NONE, x.boy(1, 0));
        due.is("BAD fits ahead of NONE", BAD, x.boy(1, 1));
        due.is("sheet 0 is nothing", NONE, x.count(4));
    }

    @Says("what is refused changes nothing (but THE TAPE, as told).")
    static void refusedChangesNothing() {
        LockTurns x = Due.told("lock 4 3 1;above mail 7 2 1;");
        int[] refused = {x.set(0, 10), x.set(6, 0), x.alter(0, 2, 100), x.alter(0, 0, 1), x.lie(1, true), x.cross(1),
                x.see(1, 0), x.forget(1), x.keep(2), x.sheet(0, 0, 41), x.end(1), x.feed(128)};
        for (int i = 0; i < refused.length; i++) {
            due.is("the " + i + "-th that is refused", BAD, refused[i]);
        }
        due.is("back(0)", STATE, x.back(0));
        due.is("sheet(0, 0, -1)", -14, x.sheet(0, 0, -1));
        asItWas(x);
        Due.feed(x, "lock 1 1 0;post 99;");
        due.is("THE TAPE", 19, x.count(3));
        due.is("text(): 99 stands at 16", -26, x.text());
        due.is("THE TAPE is empty then", 0, x.count(3));
        asItWas(x);
    }

    private static void asItWas(LockTurns x) {
        rules(x, 4, 3, 1, 0, 0, 0, 1, 0);
        marks(x, 0, 0, 0, 7, 2, 1, 0, 7);
        int[] counts = {1, 0, 0, 0, NONE, 0};
        for (int what = 0; what < counts.length; what++) {
            due.is("count(" + what + ")", counts[what], x.count(what));
        }
    }

    @Says("Fractions are in lowest terms, the denominator above 0 (0 is 0 by 1).")
    static void fractions() {
        // Coal that lies passes first; seen through, it passes behind fish: 5 and 2 to turn.
        LockTurns x = Due.told("law cargo;above fish 0 1 0;above coal 0 1 0;liar 1;");
        mean(x, 0, 1, 0, 1);
        mean(x, 1, 1, 7, 10);
        mean(x, 2, 1, 7, 5);
        mean(x, 5, 1, 7, 2);
        mean(x, 10, 1, 7, 1);
        luck(x, 0, 1, 0, 1, 1);
        luck(x, 5, 1, 0, 1, 2);
        luck(x, 6, 1, 0, 2, 5);
        luck(x, 10, 1, 0, 0, 1);
    }

    // ---- the lock and its boats

    @Says("THE LOCK: PASS (1 to 9 minutes; 5 at first), TURN (0 to 9; 2), READY (for 0 above, 1 below; 0).")
    static void theLock() {
        LockTurns x = new LockTurns();
        rules(x, 5, 2, 0);
        int[][] bounds = {{1, 9, 5}, {0, 9, 2}, {0, 1, 0}};
        for (int what = 0; what < 3; what++) {
            due.is("below what it may be", BAD, x.set(what, bounds[what][0] - 1));
            due.is("above what it may be", BAD, x.set(what, bounds[what][1] + 1));
            due.is("the least", bounds[what][2], x.set(what, bounds[what][0]));
            due.is("the most", bounds[what][0], x.set(what, bounds[what][1]));
        }
        rules(x, 9, 9, 1);
        through(Due.told("above mail 0 1 0;"), 5);
        through(Due.told("below mail 0 1 0;"), 7);
        through(Due.told("lock 1 0 0;below mail 0 1 0;"), 1);
        through(Due.told("lock 9 9 1;above mail 0 1 0;"), 18);
        through(Due.told("lock 9 9 1;below mail 0 1 0;"), 9);
    }

    @Says("LAW (0 gate, 1 ready, 2 twos, 3 cargo, 4 queue; 0).")
    static void theLaw() {
        due.is("at first", 0, new LockTurns().rule(3));
        String[] laws = {"gate", "ready", "twos", "cargo", "queue"};
        for (int law = 0; law < 5; law++) {
            due.is("law " + laws[law], law, Due.told("law " + laws[law] + ";").rule(3));
        }
        LockTurns x = new LockTurns();
        due.is("set(3, -1)", BAD, x.set(3, -1));
        due.is("set(3, 5)", BAD, x.set(3, 5));
        due.is("set(3, 4)", 0, x.set(3, 4));
        due.is("set(3, 0)", 4, x.set(3, 0));
    }

    @Says("POST (0 to 9 minutes out; 0).")
    static void thePost() {
        LockTurns x = Due.told("below mail 10 1 0;");
        due.is("at first", 0, x.rule(4));
        due.is("it counts from", 10, x.boat(0, 6));
        due.is("set(4, -1)", BAD, x.set(4, -1));
        due.is("set(4, 10)", BAD, x.set(4, 10));
        due.is("set(4, 9)", 0, x.set(4, 9));
        due.is("nine minutes out", 1, x.boat(0, 6));
    }

    @Says("HAND (0, 1: whether a hand on the beam counts; 0).")
    static void theHand() {
        LockTurns x = Due.told("above mail 9 1 4;");
        due.is("at first", 0, x.rule(5));
        due.is("it counts from", 9, x.boat(0, 6));
        due.is("set(5, -1)", BAD, x.set(5, -1));
        due.is("set(5, 2)", BAD, x.set(5, 2));
        due.is("set(5, 1)", 0, x.set(5, 1));
        due.is("four minutes ahead", 5, x.boat(0, 6));
    }

    @Says("BOATS (6 at most, by order): each from a SIDE (0 above, 1 below), with a CARGO (0 mail, 1 fish, 2 beer, "
            + "3 coal), it ARRIVES (0 to 99), of a WORTH (0 to 9: what a minute costs it), a BOY (0 to 9 minutes "
            + "ahead of it), it LIES or not (not).")
    static void theBoats() {
        String six = "above mail 0 0 0;below fish 1 1 1;above beer 98 8 8;below coal 99 9 9;above mail 2 2 2;"
                + "below fish 3 3 3;";
        LockTurns x = due.taken(six, 6);
        marks(x, 0, 0, 0, 0, 0, 0, 0);
        marks(x, 1, 1, 1, 1, 1, 1, 0);
        marks(x, 2, 0, 2, 98, 8, 8, 0);
        marks(x, 3, 1, 3, 99, 9, 9, 0);
        marks(x, 4, 0, 0, 2, 2, 2, 0);
        marks(x, 5, 1, 1, 3, 3, 3, 0);
        int[] most = {0, 3, 99, 9, 9};
        for (int what = 1; what <= 4; what++) {
            due.is("below what it may be", BAD, x.alter(0, what, -1));
            due.is("above what it may be", BAD, x.alter(0, what, most[what] + 1));
            due.is("the most", 0, x.alter(0, what, most[what]));
        }
        marks(x, 0, 0, 3, 99, 9, 9, 0);
        due.is("lie(5, true)", 0, x.lie(5, true));
        marks(x, 5, 1, 1, 3, 3, 3, 1);
        due.faulty(six + "above mail 0 0 0;", 5, 104);
        LockTurns y = Due.told("above mail 0 1 0;above mail 0 7 0;");
        due.is("seven minutes, each costs 7", 49, y.day(0));
    }

    // ---- the text

    @Says("THE TAPE has 160 bytes, places from 0.")
    static void theTape() {
        LockTurns x = new LockTurns();
        for (int i = 1; i <= 160; i++) {
            due.is("feed(32)", i, x.feed(32));
        }
        due.is("one more", FULL, x.feed(32));
        due.faulty("!", 1, 0);
        due.faulty(" ".repeat(159) + "!", 1, 159);
    }

    @Says("TOKENS, each as long as may be, blanks (32) between: NAMES (a .. z), NUMBERS (1 or 2 figures), one ; .")
    static void theTokens() {
        rules(due.taken("lock5 2 0;", 1), 5, 2, 0);
        rules(due.taken("  lock  5 02 00  ;  ", 1), 5, 2, 0);
        marks(due.taken("above mail07 1 0;", 1), 0, 0, 0, 7, 1, 0);
        due.faulty("lock 52 0;", 3, 5);
        due.faulty("lockpost 5;", 2, 0);
        due.faulty("hand;;", 2, 5);
        due.faulty("Hand;", 1, 0);
        due.faulty("hand\n;", 1, 4);
        due.faulty("post 003;", 1, 5);
    }

    @Says("text: { line } line: lock N N N ; | above K N N N ; | below K N N N ; | law L ; | post N ; | hand ; | "
            + "liar N ; K: mail | fish | beer | coal L: gate | ready | twos | cargo | queue")
    static void theLines() {
        due.taken("", 0);
        LockTurns x = due.taken("lock 5 2 0;above mail 0 0 0;below fish 1 1 1;law twos;post 3;hand;liar 0;", 7);
        rules(x, 5, 2, 0, 2, 3, 1, 2, 1);
        x = due.taken("hand;liar 0;liar 1;above beer 0 0 0;law cargo;below coal 1 1 1;post 3;lock 5 2 0;", 8);
        rules(x, 5, 2, 0, 3, 3, 1, 2, 3);
        due.faulty("law gate post 1;", 2, 9);
        due.faulty("gate law;", 2, 0);
        due.faulty("above 1 mail 1 1;", 2, 6);
        due.faulty("hand", 2, 4);
    }

    @Says("lock: PASS, TURN, READY.")
    static void theLineOfTheLock() {
        rules(due.taken("lock 7 3 1;", 1), 7, 3, 1, 0, 0, 0);
    }

    @Says("above, below: a BOAT more from there: CARGO, ARRIVES, WORTH, BOY.")
    static void theLinesOfBoats() {
        LockTurns x = due.taken("above beer 12 3 4;below coal 56 7 8;", 2);
        due.is("BOATS", 2, x.rule(6));
        marks(x, 0, 0, 2, 12, 3, 4, 0);
        marks(x, 1, 1, 3, 56, 7, 8, 0);
    }

    @Says("liar: a BOAT (0 to 5) that LIES.")
    static void theLineOfALiar() {
        LockTurns x = due.taken("liar 1;above mail 0 0 0;above mail 0 0 0;", 3);
        marks(x, 0, 0, 0, 0, 0, 0, 0);
        marks(x, 1, 0, 0, 0, 0, 0, 1);
        due.faulty("liar 6;", 3, 5);
    }

    @Says("FAULTS, the first met as it is read (a TOKEN is read when the one before has been taken): 1 no TOKEN, "
            + "a NUMBER that is too long (its first byte).")
    static void faultOne() {
        due.faulty("hand!", 1, 4);
        due.faulty("post 123", 1, 5);
        due.faulty("hand 123;", 1, 5);
        due.faulty("post 10 !", 3, 5);
        due.faulty("law gates!", 2, 4);
        due.faulty("hand;hand!", 4, 5);
        due.faulty("post ! 10", 1, 5);
    }

    @Says("2 a TOKEN that can not stand there (a NAME that begins no line, is no K, no L; or the end: the length).")
    static void faultTwo() {
        due.faulty("gate;", 2, 0);
        due.faulty("dock 5 2 0;", 2, 0);
        due.faulty("az;", 2, 0);
        due.faulty("above gate 1 1 1;", 2, 6);
        due.faulty("law mail;", 2, 4);
        due.faulty("post;", 2, 4);
        due.faulty("hand 7;", 2, 5);
        due.faulty("post 7", 2, 6);
        due.faulty("post 7  ", 2, 8);
    }

    @Says("3 a NUMBER out of its bounds.")
    static void faultThree() {
        due.faulty("lock 0 2 0;", 3, 5);
        due.faulty("lock 5 10 0;", 3, 7);
        due.faulty("lock 5 2 2;", 3, 9);
        due.faulty("above mail 99 10 0;", 3, 14);
        due.faulty("below mail 99 9 10;", 3, 16);
        due.faulty("post 10;", 3, 5);
        due.faulty("liar 6;", 3, 5);
    }

    @Says("4 lock, law, post, hand for the second time (its NAME); a BOAT that is told a liar already (it).")
    static void faultFour() {
        due.faulty("lock 5 2 0;lock 5 2 0;", 4, 11);
        due.faulty("law gate;law twos;", 4, 9);
        due.faulty("post 1;post 2;", 4, 7);
        due.faulty("hand;hand;", 4, 5);
        due.faulty("liar 0;liar 1;liar 0;", 4, 19);
    }

    @Says("5 the 7th BOAT (its NAME).")
    static void faultFive() {
        due.faulty("above mail 0 0 0;".repeat(6) + "below", 5, 102);
    }

    @Says("Behind all (the length): 6 a BOAT that there is not.")
    static void faultSix() {
        due.faulty("liar 1;above mail 0 0 0;", 6, 24);
        due.faulty("liar 1;above mail 0 0 0; ", 6, 25);
        due.faulty("liar 1;above mail 0 0 0;post", 2, 28);
    }

    @Says("A text that is taken tells all, in place of what there was; nothing is SEEN; IMAGES are gone.")
    static void taken() {
        LockTurns x = Due.told("lock 9 8 1;law queue;post 7;hand;above mail 1 1 1;below mail 1 1 1;liar 0;liar 1;");
        x.see(0, 0);
        x.keep(0);
        x.keep(1);
        due.text(x, "below coal 3 3 3;", 1);
        rules(x, 5, 2, 0, 0, 0, 0, 1, 0);
        marks(x, 0, 1, 3, 3, 3, 3, 0);
        due.is("SEEN", 0, x.count(1));
        due.is("IMAGES", 0, x.count(2));
        due.is("back(0)", STATE, x.back(0));
        due.is("back(1)", STATE, x.back(1));
    }

    // ---- a day

    @Says("COUNTS: a BOAT counts as come from ARRIVES less POST on, or, if HAND is 1 and BOY is more than POST, from "
            + "ARRIVES less BOY on (0 at least).")
    static void counts() {
        LockTurns x = Due.told("post 3;hand;above mail 10 1 0;above mail 10 1 3;above mail 10 1 4;above mail 2 1 0;"
                + "above mail 5 1 9;");
        int[] byBoth = {7, 7, 6, 0, 0};
        int[] byThePost = {7, 7, 7, 0, 2};
        for (int b = 0; b < 5; b++) {
            due.is("boat(" + b + ", 6)", byBoth[b], x.boat(b, 6));
        }
        x.set(5, 0);
        for (int b = 0; b < 5; b++) {
            due.is("boat(" + b + ", 6), no hand counts", byThePost[b], x.boat(b, 6));
        }
    }

    @Says("A DAY: THE LOCK is free at 0, READY as told.")
    static void aDayBegins() {
        LockTurns x = Due.told("lock 5 2 1;below mail 0 1 0;");
        through(x, 5);
        due.is("not turned", 0, x.day(4));
        x.cross(0);
        through(x, 7);
        due.is("turned", 1, x.day(4));
    }

    @Says("Whenever it is free: of BOATS that count as come and have not passed the one that the LAW takes; do none "
            + "count, it is free till the first one does.")
    static void wheneverItIsFree() {
        // Coal is alone at 0. At 5 mail has just come: turned till 7, through at 12; fish from 14 on.
        LockTurns x = Due.told("law cargo;above coal 0 1 0;above mail 5 1 0;above fish 1 1 0;");
        passing(x, 0, 1, 2);
        through(x, 5, 12, 19);
        // A minute later it has not come by 5.
        x.alter(1, 2, 6);
        passing(x, 0, 2, 1);
        through(x, 5, 19, 12);
        // Free till 4, then from 9 till 20, when it is turned.
        LockTurns y = Due.told("above mail 20 1 0;above mail 4 1 0;");
        passing(y, 1, 0);
        through(y, 27, 9);
    }

    @Says("For that one THE LOCK is turned, if it is READY for the other side: it takes TURN; it passes from then on, "
            + "but not ahead of its ARRIVES; it is THROUGH by PASS later; THE LOCK is free then, READY for the other "
            + "side.")
    static void forThatOne() {
        // It counts from 4, the lock is turned by 8, it arrives at 10.
        LockTurns x = Due.told("lock 3 4 0;post 6;below mail 10 1 0;");
        through(x, 13);
        // It counts from 9, the lock is turned by 13.
        x.set(4, 1);
        through(x, 16);
        // From both sides by turns it need not be turned, from one side each time.
        LockTurns y = Due.told("lock 3 4 0;above mail 0 1 0;below mail 0 1 0;above mail 0 1 0;");
        through(y, 3, 6, 9);
        due.is("not turned", 0, y.day(4));
        y.cross(1);
        through(y, 3, 10, 17);
        due.is("turned twice", 2, y.day(4));
    }

    @Says("It STOOD the minutes from ARRIVES on till it passes.")
    static void stoodTillItPasses() {
        LockTurns x = Due.told("lock 3 4 0;post 6;below mail 10 1 0;below mail 11 1 0;");
        // The first at 10, the second behind it at 13 and 4 to turn.
        stood(x, 0, 6);
        x.set(4, 1);
        stood(x, 3, 9);
    }

    @Says("WATER: 1 for each BOAT from above, 1 for each time that THE LOCK is turned so as to be READY for below.")
    static void water() {
        due.is("two from above, turned for above", 2, Due.told("above mail 0 1 0;above mail 0 1 0;").day(2));
        due.is("two from below, turned for each", 2, Due.told("below mail 0 1 0;below mail 0 1 0;").day(2));
        due.is("one from each side, not turned", 1, Due.told("above mail 0 1 0;below mail 0 1 0;").day(2));
        due.is("one from each side, turned first", 2, Due.told("below mail 0 1 0;above mail 0 1 0;").day(2));
        due.is("one from below, ready for it", 0, Due.told("lock 5 2 1;below mail 0 1 0;").day(2));
    }

    @Says("THE LAW takes, of several the one that counts from earlier on, then of the lesser number: gate: all are "
            + "alike.")
    static void gate() {
        LockTurns x = Due.told("below mail 3 1 0;above coal 2 1 0;above mail 2 1 0;above coal 0 1 0;");
        passing(x, 3, 1, 2, 0);
        // By a hand the mail counts from earlier on.
        x.alter(2, 4, 1);
        x.set(5, 1);
        passing(x, 3, 2, 1, 0);
        for (int law = 1; law < 5; law++) {
            LockTurns y = Due.told("above fish 9 1 0;above fish 1 1 0;above fish 0 1 0;above fish 1 1 0;");
            y.set(3, law);
            passing(y, 2, 1, 3, 0);
        }
    }

    @Says("ready: one from the SIDE for which it is READY, else one from the other.")
    static void ready() {
        passing(Due.told("law ready;below mail 0 1 0;above mail 0 1 0;above mail 0 1 0;"), 1, 0, 2);
        LockTurns x = Due.told("law ready;below mail 0 1 0;below mail 0 1 0;");
        passing(x, 0, 1);
        due.is("turned for both", 2, x.day(4));
    }

    @Says("twos: if the last two that passed were from one SIDE, one from the other SIDE, else one from the SIDE of "
            + "the last one (at first: READY); is there none, one from the other.")
    static void twos() {
        String above = "above mail 0 1 0;";
        String below = "below mail 0 1 0;";
        passing(Due.told("law twos;" + above.repeat(4) + below.repeat(2)), 0, 1, 4, 5, 2, 3);
        passing(Due.told("law twos;" + below.repeat(2) + above.repeat(3)), 2, 3, 0, 1, 4);
        passing(Due.told("lock 5 2 1;law twos;" + above + below), 1, 0);
        passing(Due.told("lock 5 2 1;law twos;" + above.repeat(3)), 0, 1, 2);
        // One from below has passed: now one from below again, though it is ready for above.
        passing(Due.told("lock 5 2 1;law twos;" + above.repeat(2) + below.repeat(2)), 2, 3, 0, 1);
    }

    @Says("cargo: that of the least CARGO told: who LIES tells 0.")
    static void cargo() {
        LockTurns x = Due.told("law cargo;above coal 0 1 0;below beer 0 1 0;above fish 0 1 0;below mail 0 1 0;");
        passing(x, 3, 2, 1, 0);
        x.lie(0, true);
        passing(x, 0, 3, 2, 1);
        x.lie(3, true);
        passing(x, 0, 3, 2, 1);
    }

    @Says("queue: one from the SIDE of which more count as come then, alike many: as ready.")
    static void queue() {
        LockTurns x = Due.told("law queue;above mail 0 1 0;below mail 0 1 0;below mail 0 1 0;");
        passing(x, 1, 0, 2);
        through(x, 12, 7, 17);
        // Those from below have not come when the lock is first free; then they are two to none.
        x.alter(1, 2, 1);
        x.alter(2, 2, 1);
        passing(x, 0, 1, 2);
        // Who has passed is in no queue: behind the first two of four from above they are alike many.
        passing(Due.told("law queue;above mail 0 1 0;above mail 0 1 0;above mail 0 1 0;above mail 0 1 0;"
                + "below mail 0 1 0;below mail 0 1 0;"), 0, 1, 4, 2, 5, 3);
    }

    @Says("COST of a DAY: STOOD times WORTH, summed.")
    static void cost() {
        // They stand 0, 7 and 14 minutes.
        due.is("day(0)", 3 * 7, Due.told("above mail 0 9 0;above mail 0 3 0;above mail 0 0 0;").day(0));
        due.is("day(0)", 3 * 7 + 2 * 14, Due.told("above mail 0 9 0;above mail 0 3 0;above mail 0 2 0;").day(0));
    }

    // ---- liars, what was seen, sheets

    @Says("A LIAR that is SEEN THROUGH tells 4 (behind coal).")
    static void seenThrough() {
        LockTurns x = Due.told("law cargo;above mail 0 1 0;above coal 0 1 0;liar 0;");
        luck(x, 0, 0, 0, 1, 1);
        luck(x, 10, 0, 0, 0, 1);
        luck(x, 10, 1, 0, 1, 1);
        mean(x, 10, 0, 7, 1);
        // Who does not lie is not seen through.
        x.lie(0, false);
        luck(x, 10, 0, 0, 1, 1);
    }

    @Says("SEEN (6): the i-th one that passed (from 0) was a BOAT.")
    static void seen() {
        LockTurns x = Due.told("above mail 0 1 0;above mail 0 1 0;");
        due.is("see(0, 0)", 1, x.see(0, 0));
        due.is("see(1, 1)", 2, x.see(1, 1));
        due.is("the 2nd of two", BAD, x.see(2, 0));
        for (int n = 3; n <= 6; n++) {
            due.is("see(0, 0)", n, x.see(0, 0));
        }
        due.is("see(0, 0)", FULL, x.see(0, 0));
        due.is("count(1)", 6, x.count(1));
    }

    @Says("A LAW and a set of liars FIT, if by them (all else as it is) all was as SEEN.")
    static void fit() {
        // All five laws, all four sets of liars.
        LockTurns x = Due.told("above fish 0 1 0;above coal 0 1 0;");
        due.is("nothing was seen", 20, x.fits(0));
        // Coal was first: by cargo alone, coal alone lying.
        x.see(0, 1);
        due.is("fits(0)", 1, x.fits(0));
        due.is("fits(1)", 8, x.fits(1));
        due.is("fits(2)", 2, x.fits(2));
        due.is("fits(3)", 1, x.fits(3));
        // All else as it is: had coal come earlier, every law would fit with every set.
        x.alter(0, 2, 1);
        due.is("fits(0)", 20, x.fits(0));
        // Both were first: by none.
        x.see(0, 0);
        due.is("fits(0)", 0, x.fits(0));
        due.is("fits(2)", NONE, x.fits(2));
    }

    @Says("SHEETS 0 to 3 are rows of BYTES (lane 0), SHORTS (1), INTS (2) with 0 to 40 CELLS, or nothing (at first).")
    static void sheets() {
        int[] holds = {255, 65535, -1};
        for (int k = 0; k <= 3; k++) {
            for (int lane = 0; lane <= 2; lane++) {
                LockTurns x = Due.told("above mail 50 1 0;");
                due.is("nothing", -11, x.lay(k, 0, 1));
                due.is("no cells", 1, x.sheet(k, lane, 0));
                due.is("lay(k, 0, 1)", -12, x.lay(k, 0, 1));
                due.is("41 cells", BAD, x.sheet(k, lane, 41));
                due.is("40 cells", 1, x.sheet(k, lane, 40));
                due.is("lay(k, 39, 7)", 1, x.lay(k, 39, 7));
                due.is("lay(k, 40, 7)", -12, x.lay(k, 40, 7));
                due.is("boat 0 arrives at 7", 1, x.read(k, lane, 38, 1));
                due.is("boat(0, 2)", 7, x.boat(0, 2));
                // One more than the lane holds is 0 again.
                x.lay(k, 39, holds[lane] + 1);
                due.is("boat 0 arrives at 0", 1, x.read(k, lane, 38, 1));
                due.is("boat(0, 2)", 0, x.boat(0, 2));
                // A lesser lane holds 256 no more.
                x.lay(k, 39, 256);
                due.is("boat 0 arrives at 256", lane == 0 ? 1 : -20, x.read(k, lane, 38, 1));
            }
        }
        LockTurns x = new LockTurns();
        due.is("sheet(4, 0, 1)", BAD, x.sheet(4, 0, 1));
        due.is("sheet(-1, 0, 1)", BAD, x.sheet(-1, 0, 1));
        due.is("sheet(0, 3, 1)", BAD, x.sheet(0, 3, 1));
        due.is("sheet(0, -1, 1)", BAD, x.sheet(0, -1, 1));
    }

    @Says("A FAULT is what the machine finds: 1 NULL (nothing), 2 INDEX, 3 CAST (another lane), 4 SIZE (below 0).")
    static void whatTheMachineFinds() {
        LockTurns x = Due.told("above mail 50 1 0;");
        due.is("NULL", -11, x.lay(0, 0, 0));
        due.is("read(0, 0, 0, 1)", 0, x.read(0, 0, 0, 1));
        due.is("NULL", 1, x.torn());
        due.is("SIZE", -14, x.sheet(0, 0, -1));
        x.sheet(0, 0, 3);
        due.is("INDEX", -12, x.lay(0, 3, 0));
        due.is("read(0, 0, 2, 1)", 0, x.read(0, 0, 2, 1));
        due.is("INDEX", 2, x.torn());
        due.is("read(0, 1, 0, 1)", 0, x.read(0, 1, 0, 1));
        due.is("CAST", 3, x.torn());
        due.is("read(0, 0, 0, 1)", 1, x.read(0, 0, 0, 1));
        due.is("none", 0, x.torn());
    }
}
