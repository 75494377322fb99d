/** Each promise by its whole words, with answers worked out by hand. */
public final class PromisesTest {
    private static final int BAD = LockTurns.BAD, STATE = LockTurns.STATE, FULL = LockTurns.FULL,
            NONE = LockTurns.NONE;
    private static final int MIN = Integer.MIN_VALUE, MAX = Integer.MAX_VALUE;
    private static final Due due = new Due();

    /** Three from above, two from below, the last one a minute later than the others. */
    private static final String FIVE = "lock 3 1 0; above mail 0 1 0; below fish 0 2 0; above beer 0 3 0;"
            + "below coal 0 4 0; above coal 1 5 0;";
    private static final String QUEUES = "above mail 0 1 0; below mail 0 1 0; below mail 0 1 0; law queue;";
    private static final String FISH_AND_COAL = "above fish 0 1 0; above coal 0 1 0; law cargo;";

    public static void main(String[] args) {
        Sentences.run(PromisesTest.class, due, 1, 39);
    }

    private static void row(String call, int[] want, int[] got) {
        for (int i = 0; i < want.length; i++) {
            due.is(call + " [" + i + "]", want[i], got[i]);
        }
    }

    private static int[] rules(LockTurns x) {
        int[] r = new int[8];
        for (int i = 0; i < 8; i++) {
            r[i] = x.rule(i);
        }
        return r;
    }

    private static int[] days(LockTurns x, int law) {
        int[] r = new int[5];
        for (int i = 0; i < 5; i++) {
            r[i] = x.table(law, i);
        }
        return r;
    }

    private static int[] passing(LockTurns x) {
        int[] r = new int[x.rule(6)];
        for (int i = 0; i < r.length; i++) {
            r[i] = x.passes(i);
        }
        return r;
    }

    @Says(promise = 1, value = "No BOATS; SHEETS of nothing.")
    static void aNewObject() {
        LockTurns x = new LockTurns();
        row("rules of a new one", new int[] {5, 2, 0, 0, 0, 0, 0, 0}, rules(x));
        row("day of a new one", new int[] {0, 0, 0, 0, 0}, days(x, 0));
        due.is("fault()", 0, x.fault());
        due.is("torn()", 0, x.torn());
        due.is("boat(0, 0)", BAD, x.boat(0, 0));
        due.is("passes(0)", BAD, x.passes(0));
        due.is("best(0)", 0, x.best(0));
        due.is("order(0)", 0, x.order(0));
        due.is("order(10)", BAD, x.order(10));
        due.is("calm()", 31, x.calm());
        due.is("rests(0)", 1, x.rests(0));
        due.is("rests(1)", 0, x.rests(1));
        due.is("post(0)", 0, x.post(0));
        due.is("post(1)", 0, x.post(1));
        due.is("fits(0)", 5, x.fits(0));
        due.is("fits(1)", 31, x.fits(1));
        due.is("fits(2)", 0, x.fits(2));
        due.is("fits(3)", 0, x.fits(3));
        due.is("see(0, 0)", BAD, x.see(0, 0));
        due.is("forget(0)", 0, x.forget(0));
        due.is("drift(7, 20, 0)", 0, x.drift(7, 20, 0));
        due.is("mean(0, 0, 0)", BAD, x.mean(0, 0, 0));
        for (int k = 0; k < 4; k++) {
            due.is("lay of nothing", -11, x.lay(k, 0, 0));
        }
        due.is("back(0)", STATE, x.back(0));
        due.is("back(1)", STATE, x.back(1));
        due.is("end(0)", 0, x.end(0));
        due.is("text() of nothing", 0, x.text());
    }

    @Says(promise = 2, value = "A byte (0 to 127) comes behind THE TAPE: how many it has. BAD; FULL: more than 160.")
    static void feed() {
        LockTurns x = new LockTurns();
        due.is("feed(-1)", BAD, x.feed(-1));
        due.is("feed(128)", BAD, x.feed(128));
        due.is("feed(0)", 1, x.feed(0));
        due.is("feed(127)", 2, x.feed(127));
        for (int i = 3; i <= 160; i++) {
            due.is("feed(32)", i, x.feed(32));
        }
        due.is("the 161st feed(32)", FULL, x.feed(32));
        due.is("the 161st feed(128)", BAD, x.feed(128));
        due.is("count(3)", 160, x.count(3));
    }

    @Says(promise = 3, value = "THE TAPE keeps its first n bytes: how many it had. BAD.")
    static void end() {
        LockTurns x = new LockTurns();
        Due.feed(x, "post 5;law");
        due.is("end(-1)", BAD, x.end(-1));
        due.is("end(11)", BAD, x.end(11));
        due.is("end(10)", 10, x.end(10));
        due.is("end(7)", 10, x.end(7));
        due.is("count(3)", 7, x.count(3));
        due.is("text()", 1, x.text());
        due.is("rule(4)", 5, x.rule(4));
        due.is("end(0)", 0, x.end(0));
        due.is("end(1)", BAD, x.end(1));
    }

    @Says(promise = 4, value = "THE TAPE (empty then) tells all: how many lines; -10 less the place of its FAULT: "
            + "that which was told stays.")
    static void textTaken() {
        LockTurns x = Due.told("lock 9 0 1;law twos;post 9;hand;above mail 0 0 0;below coal 99 9 9;liar 1;");
        row("rules", new int[] {9, 0, 1, 2, 9, 1, 2, 2}, rules(x));
        due.is("count(3)", 0, x.count(3));
        x.see(0, 1);
        x.keep(0);
        x.sheet(0, 0, 3);
        due.text(x, "  liar 0;above  beer07 03 1 ;  ", 2);
        due.is("fault()", 0, x.fault());
        row("rules are at first again", new int[] {5, 2, 0, 0, 0, 0, 1, 1}, rules(x));
        due.is("boat(0, 1)", 2, x.boat(0, 1));
        due.is("boat(0, 2)", 7, x.boat(0, 2));
        due.is("boat(0, 3)", 3, x.boat(0, 3));
        due.is("boat(0, 4)", 1, x.boat(0, 4));
        due.is("nothing is seen", 0, x.count(1));
        due.is("no images", 0, x.count(2));
        due.is("back(0)", STATE, x.back(0));
        due.is("the sheets stay", 3, x.count(4));
        String[] laws = {"gate", "ready", "twos", "cargo", "queue"};
        for (int law = 0; law < 5; law++) {
            due.text(x, "law " + laws[law] + ";", 1);
            due.is("rule(3)", law, x.rule(3));
        }
        String[] cargos = {"mail", "fish", "beer", "coal"};
        for (int cargo = 0; cargo < 4; cargo++) {
            due.text(x, "below " + cargos[cargo] + "1 1 1;", 1);
            due.is("boat(0, 0)", 1, x.boat(0, 0));
            due.is("boat(0, 1)", cargo, x.boat(0, 1));
        }
        due.text(x, "", 0);
        due.is("no boats", 0, x.rule(6));
    }

    @Says(promise = 4, value = "THE TAPE (empty then) tells all: how many lines; -10 less the place of its FAULT: "
            + "that which was told stays.")
    static void textStays() {
        LockTurns x = Due.told("lock 4 3 1;above fish 8 2 1;liar 0;");
        x.see(0, 0);
        x.keep(1);
        due.faulty(x, "lock 9 9 0;above mail 1 1 1;above mail 1 1 1;law gates;", 2, 49);
        row("rules stay", new int[] {4, 3, 1, 0, 0, 0, 1, 1}, rules(x));
        due.is("boat(0, 1)", 1, x.boat(0, 1));
        due.is("seen", 1, x.count(1));
        due.is("images", 1, x.count(2));
        due.is("the tape is empty", 0, x.count(3));
        due.text(x, "hand ;", 1);
        due.is("fault() of a text that was taken", 0, x.fault());
        due.is("hand", 1, x.rule(5));
    }

    @Says("1 no TOKEN, a NUMBER that is too long (its first byte).")
    static void faultNoToken() {
        LockTurns x = new LockTurns();
        due.faulty(x, "Lock", 1, 0);
        due.faulty(x, "post 5.", 1, 6);
        due.faulty(x, "post\t5;", 1, 4);
        due.faulty(x, "post 005;", 1, 5);
        due.faulty(x, "post  100", 1, 6);
        due.faulty(x, "  123", 1, 2);
        due.faulty(x, "law 000;", 1, 4);
        due.faulty(x, "hand 1234;", 1, 5);
        due.faulty(x, "hand;\0", 1, 5);
        due.faulty(x, "hand;" + (char) 127, 1, 5);
        due.faulty(x, "above mail 1 1-", 1, 14);
    }

    @Says("2 a TOKEN that can not stand there (a NAME that begins no line, is no K, no L; or the end: the length).")
    static void faultOutOfPlace() {
        LockTurns x = new LockTurns();
        due.faulty(x, ";", 2, 0);
        due.faulty(x, " 5", 2, 1);
        due.faulty(x, "locks 5 2 0;", 2, 0);
        due.faulty(x, "loc 5 2 0;", 2, 0);
        due.faulty(x, "gate;", 2, 0);
        due.faulty(x, "lock", 2, 4);
        due.faulty(x, "lock  ", 2, 6);
        due.faulty(x, "lock 5 2 0", 2, 10);
        due.faulty(x, "lock a", 2, 5);
        due.faulty(x, "lock 5 2 0 0;", 2, 11);
        due.faulty(x, "lock 5 2 0 hand;", 2, 11);
        due.faulty(x, "above 1 1 1;", 2, 6);
        due.faulty(x, "above gate 1 1 1;", 2, 6);
        due.faulty(x, "above;", 2, 5);
        due.faulty(x, "above mail;", 2, 10);
        due.faulty(x, "above mail 1 1;", 2, 14);
        due.faulty(x, "law mail;", 2, 4);
        due.faulty(x, "law 1;", 2, 4);
        due.faulty(x, "law gate", 2, 8);
        due.faulty(x, "law gategate;", 2, 4);
        due.faulty(x, "hand 1;", 2, 5);
        due.faulty(x, "post;", 2, 4);
        due.faulty(x, "liar;", 2, 4);
        due.faulty(x, "liar mail;", 2, 5);
        due.faulty(x, "hand;;", 2, 5);
    }

    @Says("3 a NUMBER out of its bounds.")
    static void faultOutOfBounds() {
        LockTurns x = new LockTurns();
        due.faulty(x, "lock 0 2 0;", 3, 5);
        due.faulty(x, "lock 10 2 0;", 3, 5);
        due.faulty(x, "lock 5 10 0;", 3, 7);
        due.faulty(x, "lock 5 2 2;", 3, 9);
        due.faulty(x, "lock 5 2 2!", 3, 9);
        due.faulty(x, "above coal 99 10 0;", 3, 14);
        due.faulty(x, "below coal 99 9 10;", 3, 16);
        due.faulty(x, "post 10;", 3, 5);
        due.faulty(x, "liar 6;", 3, 5);
        due.faulty(x, "liar 6", 3, 5);
        due.text(x, "lock 01 00 01;post 09;", 2);
    }

    @Says("4 lock, law, post, hand for the second time (its NAME); a BOAT that is told a liar already (it).")
    static void faultTwice() {
        LockTurns x = new LockTurns();
        due.faulty(x, "lock 5 2 0;lock", 4, 11);
        due.faulty(x, "law gate;law gate;", 4, 9);
        due.faulty(x, "post 0;post 0;", 4, 7);
        due.faulty(x, "hand;hand;", 4, 5);
        due.faulty(x, "hand;lock 5 2 0;law gate;post 0;hand;", 4, 32);
        due.faulty(x, "liar 5;liar 5;", 4, 12);
        due.faulty(x, "liar 3;liar 4;liar  03", 4, 20);
    }

    @Says("5 the 7th BOAT (its NAME). Behind all (the length): 6 a BOAT that there is not.")
    static void faultBoats() {
        LockTurns x = new LockTurns();
        String six = "above mail 1 1 1;below mail 1 1 1;above mail 1 1 1;below mail 1 1 1;above mail 1 1 1;"
                + "below mail 1 1 1;";
        due.faulty(six + "above mail 1 1 1;", 5, 102);
        due.faulty(six + " below", 5, 103);
        due.faulty(six + "law x;", 2, 106);
        due.text(x, six + "liar 5;", 7);
        due.is("rule(6)", 6, x.rule(6));
        due.faulty("liar 0;", 6, 7);
        due.faulty("above mail 1 1 1;liar 1; ", 6, 25);
        due.faulty("liar 1;above mail 1 1 1;liar 9;", 3, 29);
        due.text(x, "liar 1;above mail 1 1 1;above mail 1 1 1;", 3);
        due.is("rule(7)", 2, x.rule(7));
        due.is("boat(1, 5)", 1, x.boat(1, 5));
    }

    @Says(promise = 5, value = "The FAULT of the latest text(); 0.")
    static void fault() {
        LockTurns x = new LockTurns();
        due.is("there was no text", 0, x.fault());
        String[] texts = {"!", ";", "post 10;", "hand;hand;", "liar 0;"};
        int[] faults = {1, 2, 3, 4, 6};
        for (int i = 0; i < texts.length; i++) {
            Due.feed(x, texts[i]);
            due.is("not asked yet", i == 0 ? 0 : faults[i - 1], x.fault());
            x.text();
            due.is("fault() of " + texts[i], faults[i], x.fault());
            due.is("asked again", faults[i], x.fault());
        }
        due.text(x, "hand;", 1);
        due.is("of the latest alone", 0, x.fault());
    }

    @Says(promise = 6, value = "0 PASS, 1 TURN, 2 READY, 3 LAW, 4 POST, 5 HAND, 6 BOATS, 7 who LIES (bits). BAD.")
    static void rule() {
        LockTurns x = Due.told("lock 7 3 1;law queue;post 4;hand;above mail 1 2 3;below coal 4 5 6;liar 0;liar 1;");
        row("rules", new int[] {7, 3, 1, 4, 4, 1, 2, 3}, rules(x));
        due.is("rule(8)", BAD, x.rule(8));
        due.is("rule(-1)", BAD, x.rule(-1));
        due.is("rule(MIN)", BAD, x.rule(MIN));
        due.is("rule(MAX)", BAD, x.rule(MAX));
    }

    @Says(promise = 7, value = "Of a BOAT: 0 SIDE, 1 CARGO, 2 ARRIVES, 3 WORTH, 4 BOY, 5 whether it LIES (1, 0), 6 "
            + "from when on it COUNTS. BAD.")
    static void boat() {
        LockTurns x = Due.told("post 2;above mail 9 2 5;below coal 4 5 2;below fish 1 7 9;liar 1;");
        int[][] want = {{0, 0, 9, 2, 5, 0, 7}, {1, 3, 4, 5, 2, 1, 2}, {1, 1, 1, 7, 9, 0, 0}};
        for (int b = 0; b < 3; b++) {
            for (int what = 0; what < 7; what++) {
                due.is("boat(" + b + ", " + what + ")", want[b][what], x.boat(b, what));
            }
        }
        x.set(5, 1);
        due.is("a hand further out than the post", 4, x.boat(0, 6));
        due.is("a hand no further out than the post", 2, x.boat(1, 6));
        due.is("0 at least", 0, x.boat(2, 6));
        due.is("boat(3, 0)", BAD, x.boat(3, 0));
        due.is("boat(-1, 0)", BAD, x.boat(-1, 0));
        due.is("boat(0, 7)", BAD, x.boat(0, 7));
        due.is("boat(0, -1)", BAD, x.boat(0, -1));
    }

    @Says(promise = 8, value = "PASS, TURN, READY, LAW, POST, HAND (what 0 to 5) becomes v: what it was. BAD.")
    static void set() {
        LockTurns x = Due.told("above mail 1 1 1;");
        int[] first = {5, 2, 0, 0, 0, 0};
        int[] least = {1, 0, 0, 0, 0, 0};
        int[] most = {9, 9, 1, 4, 9, 1};
        for (int what = 0; what < 6; what++) {
            due.is("set below", BAD, x.set(what, least[what] - 1));
            due.is("set above", BAD, x.set(what, most[what] + 1));
            due.is("set least", first[what], x.set(what, least[what]));
            due.is("set most", least[what], x.set(what, most[what]));
            due.is("it is", most[what], x.rule(what));
        }
        due.is("set(6, 1)", BAD, x.set(6, 1));
        due.is("set(-1, 1)", BAD, x.set(-1, 1));
        due.is("set(MAX, 1)", BAD, x.set(MAX, 1));
        row("rules", new int[] {9, 9, 1, 4, 9, 1, 1, 0}, rules(x));
    }

    @Says(promise = 9, value = "CARGO, ARRIVES, WORTH, BOY (what 1 to 4) of a BOAT becomes v: what it was. BAD.")
    static void alter() {
        LockTurns x = Due.told("below fish 20 3 4;above mail 1 1 1;");
        int[] was = {1, 1, 20, 3, 4};
        int[] most = {1, 3, 99, 9, 9};
        for (int what = 1; what < 5; what++) {
            due.is("alter below", BAD, x.alter(0, what, -1));
            due.is("alter above", BAD, x.alter(0, what, most[what] + 1));
            due.is("alter least", was[what], x.alter(0, what, 0));
            due.is("alter most", 0, x.alter(0, what, most[what]));
            due.is("it is", most[what], x.boat(0, what));
        }
        due.is("alter(0, 0, 0)", BAD, x.alter(0, 0, 0));
        due.is("alter(0, 5, 0)", BAD, x.alter(0, 5, 0));
        due.is("alter(2, 1, 0)", BAD, x.alter(2, 1, 0));
        due.is("alter(-1, 1, 0)", BAD, x.alter(-1, 1, 0));
        due.is("the side stays", 1, x.boat(0, 0));
        due.is("the other boat stays", 1, x.boat(1, 2));
    }

    @Says(promise = 10, value = "A BOAT LIES, or not: whether it did. BAD.")
    static void lie() {
        LockTurns x = Due.told(FISH_AND_COAL);
        due.is("lie(1, true)", 0, x.lie(1, true));
        due.is("lie(1, true)", 1, x.lie(1, true));
        due.is("lie(0, false)", 0, x.lie(0, false));
        due.is("rule(7)", 2, x.rule(7));
        due.is("passes(0)", 1, x.passes(0));
        due.is("lie(1, false)", 1, x.lie(1, false));
        due.is("rule(7)", 0, x.rule(7));
        due.is("passes(0)", 0, x.passes(0));
        due.is("lie(2, true)", BAD, x.lie(2, true));
        due.is("lie(-1, false)", BAD, x.lie(-1, false));
    }

    @Says(promise = 11, value = "A BOAT comes from the other SIDE: from which it came. BAD.")
    static void cross() {
        LockTurns x = Due.told("above mail 0 1 0;below mail 0 1 0;");
        due.is("cross(1)", 1, x.cross(1));
        due.is("boat(1, 0)", 0, x.boat(1, 0));
        due.is("it is turned for the second", 1, x.day(4));
        due.is("cross(1)", 0, x.cross(1));
        due.is("boat(1, 0)", 1, x.boat(1, 0));
        due.is("boat(0, 0)", 0, x.boat(0, 0));
        due.is("cross(2)", BAD, x.cross(2));
        due.is("cross(-1)", BAD, x.cross(-1));
    }

    @Says(promise = 12, value = "The i-th BOAT that passes (from 0). BAD.")
    static void passes() {
        LockTurns x = Due.told(FIVE);
        row("gate", new int[] {0, 1, 2, 3, 4}, passing(x));
        x.set(3, 2);
        row("twos", new int[] {0, 2, 1, 3, 4}, passing(x));
        x.set(3, 3);
        x.lie(4, true);
        row("mail ahead, and who tells so", new int[] {0, 4, 1, 2, 3}, passing(x));
        LockTurns q = Due.told(QUEUES);
        row("queue", new int[] {1, 0, 2}, passing(q));
        q.set(3, 1);
        row("ready", new int[] {0, 1, 2}, passing(q));
        due.is("passes(3)", BAD, q.passes(3));
        due.is("passes(-1)", BAD, q.passes(-1));
        due.is("passes(MAX)", BAD, q.passes(MAX));
        due.is("passes(MIN)", BAD, q.passes(MIN));
    }

    @Says(promise = 13, value = "When a BOAT is THROUGH. BAD.")
    static void through() {
        LockTurns x = Due.told(FIVE + "law twos;");
        int[] through = {3, 10, 7, 14, 17};
        for (int b = 0; b < 5; b++) {
            due.is("through(" + b + ")", through[b], x.through(b));
        }
        LockTurns q = Due.told(QUEUES);
        q.set(3, 1);
        due.is("turned for the third", 12, q.through(2) - q.through(0));
        due.is("through(3)", BAD, q.through(3));
        due.is("through(-1)", BAD, q.through(-1));
        due.is("through(MAX)", BAD, q.through(MAX));
        due.is("through(MIN)", BAD, q.through(MIN));
    }

    @Says(promise = 14, value = "How long a BOAT STOOD. BAD.")
    static void stood() {
        LockTurns x = Due.told(FIVE + "law twos;");
        int[] stood = {0, 7, 4, 11, 13};
        for (int b = 0; b < 5; b++) {
            due.is("stood(" + b + ")", stood[b], x.stood(b));
        }
        LockTurns q = Due.told(QUEUES);
        due.is("stood(0)", 7, q.stood(0));
        due.is("stood(1)", 2, q.stood(1));
        due.is("stood(2)", 12, q.stood(2));
        due.is("stood(3)", BAD, q.stood(3));
        due.is("stood(-1)", BAD, q.stood(-1));
        due.is("stood(MAX)", BAD, q.stood(MAX));
        due.is("stood(MIN)", BAD, q.stood(MIN));
    }

    @Says(promise = 15, value = "Of the DAY: 0 COST, 1 the longest that one STOOD, 2 WATER, 3 when the last one is "
            + "THROUGH (0: there are none), 4 how often THE LOCK is turned. BAD.")
    static void day() {
        LockTurns x = Due.told(FIVE + "law twos;");
        due.is("day(0)", 135, x.day(0));
        due.is("day(1)", 13, x.day(1));
        due.is("day(2)", 4, x.day(2));
        due.is("day(3)", 17, x.day(3));
        due.is("day(4)", 2, x.day(4));
        due.is("day(5)", BAD, x.day(5));
        due.is("day(-1)", BAD, x.day(-1));
        due.is("day(3) of none", 0, new LockTurns().day(3));
    }

    @Says("do none count, it is free till the first one does")
    static void anIdleLock() {
        LockTurns x = Due.told("below coal 10 3 0;");
        row("turned when it counts", new int[] {6, 2, 1, 17, 1}, days(x, 0));
        x.set(4, 1);
        row("turned a minute earlier", new int[] {3, 1, 1, 16, 1}, days(x, 0));
        x.set(4, 9);
        row("passes not ahead of its arriving", new int[] {0, 0, 1, 15, 1}, days(x, 0));
        x.set(1, 0);
        row("turned in no time is turned too", new int[] {0, 0, 1, 15, 1}, days(x, 0));
        x.set(2, 1);
        row("ready for below", new int[] {0, 0, 0, 15, 0}, days(x, 0));
        LockTurns y = Due.told("above mail 30 1 0;above coal 9 1 0;");
        row("one that counts first", new int[] {1, 0}, passing(y));
        due.is("free till the next", 37, y.through(0));
        due.is("turned by the time the next counts", 2, y.stood(0));
    }

    @Says(promise = 16, value = "Likewise, were the LAW so. BAD.")
    static void table() {
        LockTurns x = Due.told(FIVE);
        int[] plain = {115, 11, 3, 15, 0};
        row("gate", plain, days(x, 0));
        row("ready", plain, days(x, 1));
        row("twos", new int[] {135, 13, 4, 17, 2}, days(x, 2));
        row("cargo", plain, days(x, 3));
        row("queue", plain, days(x, 4));
        x.lie(4, true);
        row("cargo with a liar", new int[] {111, 13, 3, 16, 1}, days(x, 3));
        row("gate with a liar", plain, days(x, 0));
        x.lie(4, false);
        x.lie(0, true);
        row("mail that tells mail", plain, days(x, 3));
        x.alter(0, 1, 3);
        row("coal that tells mail", plain, days(x, 3));
        due.is("the law stays", 0, x.rule(3));
        due.is("table(5, 0)", BAD, x.table(5, 0));
        due.is("table(-1, 0)", BAD, x.table(-1, 0));
        due.is("table(0, 5)", BAD, x.table(0, 5));
        due.is("table(0, -1)", BAD, x.table(0, -1));
    }

    @Says(promise = 17, value = "The LAW by which that (0 to 4, as told above) is least, of several the first. BAD.")
    static void best() {
        LockTurns x = Due.told(FIVE + "liar 4;law twos;");
        due.is("best(0)", 3, x.best(0));
        due.is("best(1)", 0, x.best(1));
        due.is("best(2)", 0, x.best(2));
        due.is("best(3)", 0, x.best(3));
        due.is("best(4)", 0, x.best(4));
        due.is("best(5)", BAD, x.best(5));
        due.is("best(-1)", BAD, x.best(-1));
        due.is("the law stays", 2, x.rule(3));
        LockTurns y = Due.told("below mail 0 1 0;above mail 0 1 0;");
        due.is("least cost by ready", 1, y.best(0));
        due.is("least turned by ready", 1, y.best(4));
        LockTurns z = Due.told("above fish 0 1 0;above coal 0 9 0;liar 1;");
        due.is("coal that lies costs less by cargo", 3, z.best(0));
        // By gate fish stands 6, coal 12 minutes, by cargo coal that lies 5, fish 13.
        LockTurns w = Due.told("above coal 2 9 0;above fish 1 1 0;above mail 0 1 0;liar 0;");
        due.is("table(0, 0)", 6 + 12 * 9, w.table(0, 0));
        due.is("table(3, 0)", 5 * 9 + 13, w.table(3, 0));
        due.is("the first one lies", 3, w.best(0));
    }

    @Says(promise = 18, value = "All BOATS in some order, whatever counts (THE LOCK waits for each): the least COST "
            + "(what 0), 10 and i: the i-th one of the first such order by numbers. BAD.")
    static void order() {
        LockTurns x = Due.told("above coal 0 1 0;above beer 1 9 0;below mail 20 9 0;");
        due.is("order(0)", 8, x.order(0));
        due.is("order(10)", 1, x.order(10));
        due.is("order(11)", 0, x.order(11));
        due.is("order(12)", 2, x.order(12));
        due.is("order(13)", BAD, x.order(13));
        due.is("order(9)", BAD, x.order(9));
        due.is("order(1)", BAD, x.order(1));
        due.is("order(-1)", BAD, x.order(-1));
        due.is("order(MIN)", BAD, x.order(MIN));
        LockTurns y = Due.told("below coal 10 3 0;");
        due.is("the lock is turned, then waits", 0, y.order(0));
        due.is("order(10)", 0, y.order(10));
        LockTurns z = Due.told("above mail 5 0 0;above mail 0 0 0;below mail 3 0 0;");
        due.is("all alike", 0, z.order(0));
        due.is("the first by numbers", 0, z.order(10));
        due.is("the first by numbers", 1, z.order(11));
        due.is("the first by numbers", 2, z.order(12));
        due.is("free at 0", 7, Due.told("above mail 0 1 0;above mail 0 1 0;").order(0));
        due.is("turned at 0", 2, Due.told("below mail 0 1 0;").order(0));
        // From below each is turned for: 2, then 7 and 14 later.
        LockTurns t = Due.told("below mail 0 1 0;below mail 0 5 0;below mail 0 9 0;");
        due.is("the dearest first", 2 * 9 + 9 * 5 + 16, t.order(0));
        due.is("order(10)", 2, t.order(10));
        due.is("order(11)", 1, t.order(11));
        due.is("order(12)", 0, t.order(12));
    }

    @Says(promise = 19, value = "LAWS by which a BOAT passes first of all (bits). BAD.")
    static void firsts() {
        LockTurns x = Due.told("below coal 0 1 0;above fish 0 1 0;below fish 0 1 0;");
        due.is("firsts(0): gate, queue", 1 + 16, x.firsts(0));
        due.is("firsts(1): ready, twos, cargo", 2 + 4 + 8, x.firsts(1));
        due.is("firsts(2)", 0, x.firsts(2));
        x.lie(2, true);
        due.is("firsts(1)", 2 + 4, x.firsts(1));
        due.is("firsts(2)", 8, x.firsts(2));
        due.is("the first one lies", 31, Due.told("above coal 0 1 0;above mail 0 1 0;liar 0;").firsts(0));
        due.is("firsts(3)", BAD, x.firsts(3));
        due.is("firsts(-1)", BAD, x.firsts(-1));
    }

    @Says(promise = 20, value = "1000 and by how many minutes it STOOD less, would a BOAT LIE that does not, would "
            + "it not that does. BAD.")
    static void gain() {
        LockTurns x = Due.told(FISH_AND_COAL);
        due.is("gain(1)", 1007, x.gain(1));
        due.is("gain(0)", 1000, x.gain(0));
        x.lie(1, true);
        due.is("gain(1) of one who lies", 993, x.gain(1));
        due.is("gain(0)", 1007, x.gain(0));
        x.set(3, 0);
        due.is("by gate none gains", 1000, x.gain(0));
        due.is("the liars stay", 2, x.rule(7));
        due.is("gain(2)", BAD, x.gain(2));
        due.is("gain(-1)", BAD, x.gain(-1));
    }

    @Says(promise = 21, value = "LAWS by which no BOAT gains so, LIES being as they are (bits).")
    static void calm() {
        LockTurns x = Due.told(FISH_AND_COAL);
        due.is("coal gains by cargo", 1 + 2 + 4 + 16, x.calm());
        x.lie(0, true);
        due.is("calm(), the first one lies", 31, x.calm());
        x.set(3, 4);
        due.is("calm() is of all laws", 31, x.calm());
        due.is("by a minute alone", 23, Due.told("lock 1 0 0;above fish 0 1 0;above coal 0 1 0;").calm());
        due.is("the first one alone", 23, Due.told("above coal 0 1 0;above fish 0 1 0;").calm());
        due.is("the liars stay", 1, x.rule(7));
    }

    @Says(promise = 22, value = "Sets of liars by which, by the LAW, no BOAT gains so: how many (what 0), the least "
            + "by bits (1). BAD; NONE (1): there is none.")
    static void rests() {
        LockTurns x = Due.told(FISH_AND_COAL);
        due.is("fish alone lies, or both", 2, x.rests(0));
        due.is("rests(1)", 1, x.rests(1));
        x.lie(1, true);
        due.is("whoever lies now", 2, x.rests(0));
        x.set(3, 4);
        due.is("rests(0) by queue", 4, x.rests(0));
        due.is("rests(1) by queue", 0, x.rests(1));
        due.is("rests(2)", BAD, x.rests(2));
        due.is("rests(-1)", BAD, x.rests(-1));
        due.is("the liars stay", 2, x.rule(7));
    }

    @Says(promise = 23, value = "The least BOY (0 to 9) of a BOAT by which it passes ahead of another one. BAD (also "
            + "alike); NONE: by none.")
    static void boy() {
        LockTurns x = Due.told("hand;above coal 3 1 0;above mail 2 1 0;");
        due.is("boy(0, 1)", 1, x.boy(0, 1));
        due.is("boy(1, 0)", 0, x.boy(1, 0));
        due.is("the boy stays", 0, x.boat(0, 4));
        x.alter(1, 4, 2);
        due.is("boy(0, 1)", 3, x.boy(0, 1));
        x.set(5, 0);
        due.is("a hand that does not count", NONE, x.boy(0, 1));
        due.is("boy(0, 0)", BAD, x.boy(0, 0));
        due.is("boy(0, 2)", BAD, x.boy(0, 2));
        due.is("boy(2, 0)", BAD, x.boy(2, 0));
        due.is("boy(-1, 0)", BAD, x.boy(-1, 0));
        due.is("boy(0, -1)", BAD, x.boy(0, -1));
        LockTurns y = Due.told("post 5;hand;above coal 20 1 0;above mail 18 1 0;");
        due.is("further out than the post", 7, y.boy(0, 1));
        y.alter(0, 2, 28);
        due.is("by none", NONE, y.boy(0, 1));
        y.alter(0, 2, 22);
        due.is("by nine", 9, y.boy(0, 1));
        y.alter(0, 2, 23);
        due.is("ten would be too many", NONE, y.boy(0, 1));
    }

    @Says(promise = 24, value = "The POST (0 to 9) by which COST of the DAY is least, of several the least (what 0), "
            + "that COST (1). BAD.")
    static void post() {
        LockTurns x = Due.told("below coal 10 3 0;");
        due.is("post(0)", 2, x.post(0));
        due.is("post(1)", 0, x.post(1));
        x.set(1, 9);
        due.is("post(0)", 9, x.post(0));
        x.alter(0, 2, 0);
        due.is("of several the least", 0, x.post(0));
        due.is("post(1)", 27, x.post(1));
        due.is("post(2)", BAD, x.post(2));
        due.is("post(-1)", BAD, x.post(-1));
        due.is("the post stays", 0, x.rule(4));
    }

    @Says(promise = 25, value = "By how many minutes (0 to 60) at most a BOAT could ARRIVE later and be THROUGH no "
            + "later than now. BAD.")
    static void late() {
        LockTurns x = Due.told("above coal 0 1 0;below mail 1 1 0;below mail 2 1 0;");
        due.is("late(0)", 0, x.late(0));
        due.is("as early as the third and of a lesser number", 1, x.late(1));
        due.is("late(2)", 8, x.late(2));
        due.is("it arrives as told", 2, x.boat(2, 2));
        due.is("late(3)", BAD, x.late(3));
        due.is("late(-1)", BAD, x.late(-1));
        LockTurns y = Due.told("lock 9 9 0;post 9;above mail 90 1 0;above mail 91 1 0;");
        due.is("beyond 99 too", 17, y.late(1));
        LockTurns z = Due.told("lock 9 9 0;law cargo;above mail 0 1 0;above mail 0 1 0;above mail 0 1 0;"
                + "above mail 0 1 0;above mail 0 1 0;above coal 0 1 0;");
        due.is("stood(5)", 90, z.stood(5));
        due.is("60 at most", 60, z.late(5));
    }

    @Says(promise = 26, value = "Two BOATS change places in the order in which BOATS pass now (then as by order()): "
            + "10000 and what the first one's STOOD times WORTH is less by (what 0), the second one's (1), that of "
            + "all (2). BAD (also alike).")
    static void deal() {
        LockTurns x = Due.told("above coal 0 1 0;above beer 1 9 0;below mail 20 5 0;");
        due.is("what the first one has", 10000 - 8, x.deal(0, 1, 0));
        due.is("what the second one has", 10000 + 54, x.deal(0, 1, 1));
        due.is("what all have", 10000 + 46, x.deal(0, 1, 2));
        due.is("the other way round", 10000 + 54, x.deal(1, 0, 0));
        due.is("deal(0, 0, 0)", BAD, x.deal(0, 0, 0));
        due.is("deal(0, 3, 0)", BAD, x.deal(0, 3, 0));
        due.is("deal(-1, 0, 0)", BAD, x.deal(-1, 0, 0));
        due.is("deal(0, 1, 3)", BAD, x.deal(0, 1, 3));
        due.is("deal(0, 1, -1)", BAD, x.deal(0, 1, -1));
        LockTurns y = Due.told("above mail 10 1 0;above mail 10 1 0;lock 5 2 1;");
        due.is("now it is turned when one counts, then at once", 10000 + 9, y.deal(0, 1, 1));
        due.is("deal(0, 1, 2)", 10000 + 4, y.deal(0, 1, 2));
    }

    @Says(promise = 27, value = "Each liar is SEEN THROUGH by v out of ten (0 to 10), by itself: the mean of how "
            + "long a BOAT STOOD: 0, 1. BAD.")
    static void mean() {
        LockTurns x = Due.told(FISH_AND_COAL + "liar 1;");
        due.is("mean(3, 1, 0)", 21, x.mean(3, 1, 0));
        due.is("mean(3, 1, 1)", 10, x.mean(3, 1, 1));
        due.is("mean(5, 1, 0)", 7, x.mean(5, 1, 0));
        due.is("mean(5, 1, 1)", 2, x.mean(5, 1, 1));
        due.is("mean(0, 1, 0)", 0, x.mean(0, 1, 0));
        due.is("mean(0, 1, 1)", 1, x.mean(0, 1, 1));
        due.is("mean(10, 1, 0)", 7, x.mean(10, 1, 0));
        due.is("mean(10, 1, 1)", 1, x.mean(10, 1, 1));
        due.is("mean(11, 1, 0)", BAD, x.mean(11, 1, 0));
        due.is("mean(-1, 1, 0)", BAD, x.mean(-1, 1, 0));
        due.is("mean(1, 2, 0)", BAD, x.mean(1, 2, 0));
        due.is("mean(1, -1, 0)", BAD, x.mean(1, -1, 0));
        due.is("mean(1, 1, 2)", BAD, x.mean(1, 1, 2));
        due.is("mean(1, 1, -1)", BAD, x.mean(1, 1, -1));
        x.lie(0, true);
        due.is("two liars: only the first is seen through, 9 of 100", 63, x.mean(1, 0, 0));
        due.is("mean(1, 0, 1)", 100, x.mean(1, 0, 1));
        x.set(3, 0);
        due.is("by gate", 7, x.mean(1, 1, 0));
        due.is("by gate", 1, x.mean(1, 1, 1));
        LockTurns y = Due.told("law cargo;above coal 0 1 0;above coal 0 1 0;liar 0;");
        due.is("behind coal", 7, y.mean(10, 0, 0));
    }

    @Says(promise = 28, value = "Likewise, that a BOAT is the i-th one that passes: 0, 1. BAD.")
    static void luck() {
        LockTurns x = Due.told(FISH_AND_COAL + "liar 1;");
        due.is("luck(3, 1, 0, 0)", 7, x.luck(3, 1, 0, 0));
        due.is("luck(3, 1, 0, 1)", 10, x.luck(3, 1, 0, 1));
        due.is("luck(4, 1, 1, 0)", 2, x.luck(4, 1, 1, 0));
        due.is("luck(4, 1, 1, 1)", 5, x.luck(4, 1, 1, 1));
        due.is("luck(0, 0, 0, 0)", 0, x.luck(0, 0, 0, 0));
        due.is("luck(0, 0, 0, 1)", 1, x.luck(0, 0, 0, 1));
        due.is("luck(10, 0, 0, 0)", 1, x.luck(10, 0, 0, 0));
        due.is("luck(10, 0, 0, 1)", 1, x.luck(10, 0, 0, 1));
        due.is("luck(11, 0, 0, 0)", BAD, x.luck(11, 0, 0, 0));
        due.is("luck(-1, 0, 0, 0)", BAD, x.luck(-1, 0, 0, 0));
        due.is("luck(0, 2, 0, 0)", BAD, x.luck(0, 2, 0, 0));
        due.is("luck(0, -1, 0, 0)", BAD, x.luck(0, -1, 0, 0));
        due.is("luck(0, 0, 2, 0)", BAD, x.luck(0, 0, 2, 0));
        due.is("luck(0, 0, -1, 0)", BAD, x.luck(0, 0, -1, 0));
        due.is("luck(0, 0, 0, 2)", BAD, x.luck(0, 0, 0, 2));
        due.is("luck(0, 0, 0, -1)", BAD, x.luck(0, 0, 0, -1));
    }

    @Says(promise = 29, value = "SEEN: the i-th one that passed was a BOAT: how many are. BAD; FULL.")
    static void see() {
        LockTurns x = Due.told(FISH_AND_COAL);
        due.is("see(0, 2)", BAD, x.see(0, 2));
        due.is("see(0, -1)", BAD, x.see(0, -1));
        due.is("see(2, 0)", BAD, x.see(2, 0));
        due.is("see(-1, 0)", BAD, x.see(-1, 0));
        due.is("none is seen", 0, x.count(1));
        for (int n = 1; n <= 6; n++) {
            due.is("see(0, 1)", n, x.see(0, 1));
        }
        due.is("the 7th", FULL, x.see(0, 1));
        due.is("the 7th, no boat", BAD, x.see(0, 2));
        due.is("six are seen", 6, x.count(1));
    }

    @Says(promise = 30, value = "SEEN are the first n alone: how many there were. BAD.")
    static void forget() {
        LockTurns x = Due.told(FISH_AND_COAL);
        for (int n = 1; n <= 6; n++) {
            x.see(0, 1);
        }
        due.is("forget(7)", BAD, x.forget(7));
        due.is("forget(-1)", BAD, x.forget(-1));
        due.is("forget(6)", 6, x.forget(6));
        due.is("forget(2)", 6, x.forget(2));
        due.is("forget(3)", BAD, x.forget(3));
        due.is("see(1, 0)", 3, x.see(1, 0));
        due.is("forget(0)", 3, x.forget(0));
        due.is("count(1)", 0, x.count(1));
        due.is("forget(0) of none", 0, x.forget(0));
    }

    @Says(promise = 31, value = "LAWS and sets of liars that FIT: how many pairs (what 0), LAWS that are in some (1; "
            + "bits), BOATS that LIE in all of them (2), in none (3; bits). BAD; NONE (2, 3): there is none.")
    static void fits() {
        LockTurns x = Due.told(FISH_AND_COAL);
        due.is("fits(0)", 20, x.fits(0));
        due.is("fits(1)", 31, x.fits(1));
        due.is("fits(2)", 0, x.fits(2));
        due.is("fits(3)", 0, x.fits(3));
        x.see(0, 1);
        due.is("fits(0)", 1, x.fits(0));
        due.is("fits(1)", 8, x.fits(1));
        due.is("fits(2)", 2, x.fits(2));
        due.is("fits(3)", 1, x.fits(3));
        x.see(1, 1);
        due.is("fits(0)", 0, x.fits(0));
        due.is("fits(1)", 0, x.fits(1));
        due.is("fits(2)", NONE, x.fits(2));
        due.is("fits(3)", NONE, x.fits(3));
        due.is("fits(4)", BAD, x.fits(4));
        due.is("fits(-1)", BAD, x.fits(-1));
        x.forget(0);
        x.see(1, 1);
        due.is("all but one", 19, x.fits(0));
        due.is("fits(1)", 31, x.fits(1));
        LockTurns y = Due.told("above coal 3 1 0;above fish 1 1 0;above mail 0 1 0;");
        y.see(1, 0);
        due.is("only the first can have lied itself ahead", 2, y.fits(0));
        due.is("fits(1)", 8, y.fits(1));
        due.is("fits(2)", 1, y.fits(2));
        due.is("fits(3)", 2, y.fits(3));
    }

    @Says(promise = 32, value = "By itself, n DAYS (1 to 20) by a seed: in each for each BOAT by order the seed "
            + "becomes seed times 1103515245 and 12345; it ARRIVES by bits 16 to 30 of it modulo 40: COST of all, "
            + "summed (what 0), WATER (1). BAD.")
    static void drift() {
        LockTurns x = Due.told("below mail 9 3 0;");
        due.is("each day it is turned", 6 * 20, x.drift(12345, 20, 0));
        due.is("drift(12345, 20, 1)", 20, x.drift(12345, 20, 1));
        due.is("it arrives as told", 9, x.boat(0, 2));
        due.is("drift(1, 0, 0)", BAD, x.drift(1, 0, 0));
        due.is("drift(1, 21, 0)", BAD, x.drift(1, 21, 0));
        due.is("drift(1, 1, 2)", BAD, x.drift(1, 1, 2));
        due.is("drift(1, 1, -1)", BAD, x.drift(1, 1, -1));
        // From 0 the seed becomes 12345, then -740551042 (bits 16 to 30: 21468): they arrive at 0 and 28.
        LockTurns y = Due.told("above mail 0 1 0;above mail 0 1 0;");
        due.is("drift(0, 1, 0)", 2, y.drift(0, 1, 0));
        due.is("drift(0, 1, 1)", 2, y.drift(0, 1, 1));
        // From 1 those bits are 16838 5758, 10113 17515, 31051 5627, 23010 7419, 16212 4086, as of the C of old:
        // they arrive at 38 38, 33 35, 11 27, 10 19, 12 6; the second one stands 7, 5, 2, 2, 0, the first one then 2.
        y.alter(1, 3, 3);
        int[] costs = {21, 15, 6, 6, 2};
        int cost = 0;
        for (int n = 1; n <= 5; n++) {
            cost += costs[n - 1];
            due.is("drift(1, " + n + ", 0)", cost, y.drift(1, n, 0));
            due.is("drift(1, " + n + ", 1)", 2 * n, y.drift(1, n, 1));
        }
        LockTurns z = Due.told("above mail 0 0 0;".repeat(6));
        due.is("six that cost nothing", 0, z.drift(1, 20, 0));
        due.is("the water of six", 6 * 20, z.drift(1, 20, 1));
    }

    @Says(promise = 33, value = "IMAGE k (0, 1) is THE LOCK, LAW, POST, HAND, BOATS (all of them), what was SEEN: "
            + "whether there was one (1, 0). BAD.")
    static void keep() {
        LockTurns x = Due.told("above coal 0 1 2;");
        due.is("keep(-1)", BAD, x.keep(-1));
        due.is("keep(2)", BAD, x.keep(2));
        due.is("no image", 0, x.count(2));
        due.is("keep(1)", 0, x.keep(1));
        due.is("keep(0)", 0, x.keep(0));
        due.is("keep(1) again", 1, x.keep(1));
        due.is("two images", 2, x.count(2));
        x.alter(0, 2, 9);
        due.is("keep(0) in place of what it was", 1, x.keep(0));
        x.alter(0, 2, 20);
        due.is("image 0: it arrives at 9", 14, x.back(0));
        due.is("image 1: it arrives at 0", 5, x.back(1));
    }

    @Says(promise = 34, value = "All is as IMAGE k: when the last one is THROUGH. BAD; STATE: there is none.")
    static void back() {
        LockTurns x = Due.told("above coal 0 1 2;below mail 0 1 0;liar 0;");
        due.is("keep(-1)", BAD, x.keep(-1));
        due.is("keep(2)", BAD, x.keep(2));
        due.is("back(2)", BAD, x.back(2));
        due.is("back(-1)", BAD, x.back(-1));
        due.is("back(1)", STATE, x.back(1));
        x.see(1, 1);
        due.is("keep(1)", 0, x.keep(1));
        for (int what = 0; what < 6; what++) {
            x.set(what, 1);
        }
        x.alter(0, 1, 0);
        x.alter(0, 2, 50);
        x.alter(0, 3, 9);
        x.alter(0, 4, 9);
        x.cross(0);
        x.lie(0, false);
        x.lie(1, true);
        x.forget(0);
        x.see(0, 0);
        x.see(0, 0);
        due.is("keep(0)", 0, x.keep(0));
        due.is("back(1)", 10, x.back(1));
        row("rules", new int[] {5, 2, 0, 0, 0, 0, 2, 1}, rules(x));
        int[] boat = {0, 3, 0, 1, 2, 1, 0};
        for (int what = 0; what < 7; what++) {
            due.is("boat(0, " + what + ")", boat[what], x.boat(0, what));
        }
        due.is("count(1)", 1, x.count(1));
        due.is("it was seen as seen then: both laws and liars fit", 20 - 2, x.fits(0));
        due.is("keep(1) again", 1, x.keep(1));
        x.feed(32);
        due.is("back(0)", 51, x.back(0));
        due.is("the tape stays", 1, x.count(3));
        due.is("seen", 2, x.count(1));
        due.is("rule(7)", 2, x.rule(7));
        due.is("images stay", 2, x.count(2));
    }

    @Says(promise = 35, value = "A SHEET is a new row of CELLS 0: 1. BAD: also n above 40; -10 - 4.")
    static void sheets() {
        LockTurns x = new LockTurns();
        due.is("sheet(4, 0, 1)", BAD, x.sheet(4, 0, 1));
        due.is("sheet(-1, 0, 1)", BAD, x.sheet(-1, 0, 1));
        due.is("sheet(0, 3, 1)", BAD, x.sheet(0, 3, 1));
        due.is("sheet(0, -1, 1)", BAD, x.sheet(0, -1, 1));
        due.is("sheet(0, 0, 41)", BAD, x.sheet(0, 0, 41));
        due.is("sheet(4, 0, -1)", BAD, x.sheet(4, 0, -1));
        due.is("sheet(0, 0, -1)", -14, x.sheet(0, 0, -1));
        due.is("still nothing", NONE, x.count(4));
        due.is("sheet(0, 2, 40)", 1, x.sheet(0, 2, 40));
        due.is("sheet(0, 1, -5)", -14, x.sheet(0, 1, -5));
        due.is("count(4)", 40, x.count(4));
        due.is("sheet(0, 0, 0)", 1, x.sheet(0, 0, 0));
        due.is("count(4)", 0, x.count(4));
        due.is("lay(0, 0, 1)", -12, x.lay(0, 0, 1));
        LockTurns y = Due.told("above mail 5 1 0;");
        y.sheet(3, 0, 2);
        y.lay(3, 1, 77);
        y.sheet(3, 0, 2);
        y.read(3, 0, 0, 1);
        due.is("a new row is of 0", 0, y.boat(0, 2));
    }

    @Says(promise = 36, value = "CELL i of a SHEET becomes v (its lowest bits): 1. BAD: k; -10 less the FAULT: NULL, "
            + "INDEX.")
    static void lay() {
        LockTurns x = Due.told("above mail 5 1 0;above mail 5 1 0;");
        due.is("lay(-1, 0, 0)", BAD, x.lay(-1, 0, 0));
        due.is("lay(4, 0, 0)", BAD, x.lay(4, 0, 0));
        due.is("lay(2, 0, 0)", -11, x.lay(2, 0, 0));
        due.is("lay(2, -1, 0)", -11, x.lay(2, -1, 0));
        for (int lane = 0; lane < 3; lane++) {
            int beyond = lane == 0 ? 256 : lane == 1 ? 65536 : 0;
            x.sheet(2, lane, 2);
            due.is("lay(2, 2, 0)", -12, x.lay(2, 2, 0));
            due.is("lay(2, -1, 0)", -12, x.lay(2, -1, 0));
            due.is("lay(2, 0, 1)", 1, x.lay(2, 0, 1 + beyond));
            due.is("lay(2, 1, ..)", 1, x.lay(2, 1, 10 + lane + beyond));
            due.is("read", 1, x.read(2, lane, 0, 1));
            due.is("its lowest bits", 10 + lane, x.boat(1, 2));
            x.lay(2, 1, lane == 0 ? 128 : lane == 1 ? 32768 : MIN);
            due.is("below 0", -20, x.read(2, lane, 0, 1));
        }
        due.is("a whole int stays", 1, x.lay(2, 1, 65536 + 3));
        due.is("a whole int is refused", -20, x.read(2, 2, 0, 1));
    }

    @Says(promise = 37, value = "n (0 to 20) times a BOAT, when it ARRIVES are read of a SHEET taken as of a lane, "
            + "two CELLS each from CELL f on, one behind another as by alter(): how many came. What the machine "
            + "refuses: those that were whole ahead come (its FAULT is asked by torn()). BAD: k, lane, n; -20 less "
            + "i: the i-th, whole, is refused by alter(): then none came; the first met.")
    static void read() {
        LockTurns x = Due.told("above mail 5 1 0;above mail 6 1 0;");
        due.is("read(-1, 0, 0, 1)", BAD, x.read(-1, 0, 0, 1));
        due.is("read(4, 0, 0, 1)", BAD, x.read(4, 0, 0, 1));
        due.is("read(0, 3, 0, 1)", BAD, x.read(0, 3, 0, 1));
        due.is("read(0, -1, 0, 1)", BAD, x.read(0, -1, 0, 1));
        due.is("read(0, 0, 0, 21)", BAD, x.read(0, 0, 0, 21));
        due.is("read(0, 0, 0, -1)", BAD, x.read(0, 0, 0, -1));
        int[] cells = {9, 1, 40, 0, 50, 1, 41};
        x.sheet(0, 1, 7);
        for (int i = 0; i < 7; i++) {
            x.lay(0, i, cells[i]);
        }
        due.is("from cell 1 on", 3, x.read(0, 1, 1, 3));
        due.is("the later one", 41, x.boat(1, 2));
        due.is("boat(0, 2)", 50, x.boat(0, 2));
        x.alter(0, 2, 7);
        x.alter(1, 2, 8);
        due.is("half a pair is not whole", 0, x.read(0, 1, 6, 1));
        due.is("torn()", 2, x.torn());
        due.is("no such boat", -20, x.read(0, 1, 0, 2));
        x.lay(0, 2, -1);
        due.is("a minute below 0", -20, x.read(0, 1, 1, 1));
        x.lay(0, 2, 100);
        due.is("a minute above 99", -20, x.read(0, 1, 1, 1));
        x.lay(0, 1, -1);
        x.lay(0, 2, 40);
        due.is("a boat below 0", -20, x.read(0, 1, 1, 1));
        x.lay(0, 1, 1);
        due.is("boat(0, 2) stays", 7, x.boat(0, 2));
        x.lay(0, 5, 2);
        due.is("the third is refused: none came", -22, x.read(0, 1, 1, 3));
        due.is("boat(1, 2) stays", 8, x.boat(1, 2));
        x.lay(0, 5, 1);
        due.is("behind the third there is none", 3, x.read(0, 1, 1, 20));
        due.is("those ahead came", 41, x.boat(1, 2));
        due.is("torn()", 2, x.torn());
        due.is("ahead of the row", 0, x.read(0, 1, -2, 3));
        due.is("far behind", 0, x.read(0, 1, MAX, 20));
        due.is("far ahead", 0, x.read(0, 1, MIN, 20));
        due.is("none are asked for", 0, x.read(0, 1, MAX, 0));
        due.is("torn()", 0, x.torn());
    }

    @Says(promise = 38, value = "The FAULT of the latest read() that came to an end; 0.")
    static void torn() {
        LockTurns x = Due.told("above mail 5 1 0;");
        due.is("nothing", 0, x.read(1, 2, 0, 1));
        due.is("torn()", 1, x.torn());
        x.sheet(1, 2, 2);
        due.is("another lane", 0, x.read(1, 1, 0, 1));
        due.is("torn()", 3, x.torn());
        due.is("another lane, beyond too", 0, x.read(1, 0, 9, 1));
        due.is("torn()", 3, x.torn());
        due.is("BAD does not come to an end", BAD, x.read(1, 3, 0, 1));
        due.is("torn()", 3, x.torn());
        x.lay(1, 0, 1);
        due.is("refused by alter() does not come to an end", -20, x.read(1, 2, 0, 1));
        due.is("torn()", 3, x.torn());
        x.lay(1, 0, 0);
        due.is("one, then the row ends", 1, x.read(1, 2, 0, 2));
        due.is("torn()", 2, x.torn());
        due.is("sheet(1, 0, -1)", -14, x.sheet(1, 0, -1));
        due.is("lay(0, 0, 0)", -11, x.lay(0, 0, 0));
        due.is("torn() is of read() alone", 2, x.torn());
        due.is("a whole one", 1, x.read(1, 2, 0, 1));
        due.is("torn()", 0, x.torn());
    }

    /** Nothing is read by n 0, so it has no fault, whatever the sheet, the lane, the cell; by n above 0 it has. */
    @Says(promise = 38, value = "The FAULT of the latest read() that came to an end; 0.")
    static void tornByNone() {
        int[] froms = {MIN, -1, 0, 1, 39, 40, MAX};
        for (int k = 0; k < 4; k++) {
            for (int of = -1; of < 3; of++) {
                for (int size = 0; size <= (of < 0 ? 0 : 40); size += 20) {
                    LockTurns x = Due.told("above mail 5 1 0;");
                    if (of >= 0) {
                        x.sheet(k, of, size);
                    }
                    for (int as = 0; as < 3; as++) {
                        String sheet = "sheet " + k + " of lane " + of + " and " + size + " as of lane " + as;
                        for (int from : froms) {
                            due.is("read of none, " + sheet, 0, x.read(k, as, from, 0));
                            due.is("torn(), " + sheet + " from " + from, 0, x.torn());
                        }
                        if (of != as) {
                            tornBySome(x, sheet, k, as, of < 0 ? 1 : 3);
                        }
                    }
                    due.is("none came", 5, x.boat(0, 2));
                }
            }
        }
    }

    private static void tornBySome(LockTurns x, String sheet, int k, int as, int fault) {
        for (int n = 1; n <= 20; n++) {
            due.is("read of " + n + ", " + sheet, 0, x.read(k, as, n % 5 - 1, n));
            due.is("torn(), " + sheet, fault, x.torn());
            due.is("BAD stays torn", BAD, x.read(k, as, 0, 21));
            due.is("torn(), " + sheet, fault, x.torn());
        }
        due.is("read of none behind, " + sheet, 0, x.read(k, as, 0, 0));
        due.is("torn(), " + sheet, 0, x.torn());
    }

    @Says(promise = 39, value = "How many: 0 BOATS from above, 1 SEEN, 2 IMAGES, 3 bytes on THE TAPE, 4 CELLS of "
            + "SHEET 0 (NONE: nothing), 5 who LIE. BAD.")
    static void count() {
        LockTurns x = Due.told("above mail 5 1 0;below mail 5 1 0;above mail 5 1 0;liar 1;liar 2;");
        x.see(0, 0);
        x.keep(1);
        x.feed(65);
        x.feed(66);
        x.feed(67);
        int[] want = {2, 1, 1, 3, NONE, 2};
        for (int what = 0; what < 6; what++) {
            due.is("count(" + what + ")", want[what], x.count(what));
        }
        x.sheet(1, 0, 9);
        due.is("sheet 0 is nothing still", NONE, x.count(4));
        x.sheet(0, 0, 8);
        due.is("count(4)", 8, x.count(4));
        x.keep(1);
        due.is("one image", 1, x.count(2));
        x.cross(0);
        due.is("count(0)", 1, x.count(0));
        due.is("count(6)", BAD, x.count(6));
        due.is("count(-1)", BAD, x.count(-1));
    }
}
