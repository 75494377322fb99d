/** Each sentence of the terms of a DAY and of promises 12 to 18 that names a boundary, held by a test of its own. */
public final class DayBoundsTest {
    private static final int BAD = LockTurns.BAD;
    private static final int GATE = 0, READY = 1, TWOS = 2, CARGO = 3, QUEUE = 4;
    private static final Due due = new Due();

    public static void main(String[] args) {
        Sentences.run(DayBoundsTest.class, due, 12, 18);
    }

    /** The order in which boats pass by a law. */
    private static void passing(LockTurns x, int law, int... want) {
        x.set(3, law);
        due.is("boats", want.length, x.rule(6));
        for (int i = 0; i < want.length; i++) {
            due.is("passes(" + i + ") by law " + law, want[i], x.passes(i));
        }
    }

    private static void day(LockTurns x, int cost, int longest, int water, int last, int turned) {
        int[] want = {cost, longest, water, last, turned};
        for (int what = 0; what < 5; what++) {
            due.is("day(" + what + ")", want[what], x.day(what));
        }
    }

    // ---- counts

    @Says("a BOAT counts as come from ARRIVES less POST on")
    static void countsByThePost() {
        for (int post = 0; post <= 9; post++) {
            LockTurns x = Due.told("above mail 99 1 9;above mail 9 1 9;above mail 10 1 9;");
            x.set(4, post);
            due.is("boat(0, 6)", 99 - post, x.boat(0, 6));
            due.is("boat(1, 6)", 9 - post, x.boat(1, 6));
            due.is("boat(2, 6)", 10 - post, x.boat(2, 6));
        }
    }

    @Says("(0 at least)")
    static void countsFromNoughtAtLeast() {
        for (int arrives = 0; arrives <= 10; arrives++) {
            LockTurns x = Due.told("post 5;above mail " + arrives + " 1 9;");
            due.is("boat(0, 6) by the post, arrives " + arrives, arrives <= 5 ? 0 : arrives - 5, x.boat(0, 6));
            x.set(5, 1);
            due.is("boat(0, 6) by the boy, arrives " + arrives, arrives <= 9 ? 0 : arrives - 9, x.boat(0, 6));
        }
    }

    @Says("if HAND is 1 and BOY is more than POST, from ARRIVES less BOY on")
    static void countsByTheBoy() {
        for (int post = 0; post <= 9; post++) {
            for (int boy = 0; boy <= 9; boy++) {
                LockTurns x = Due.told("above mail 50 1 0;");
                x.set(4, post);
                x.alter(0, 4, boy);
                due.is("a hand that does not count", 50 - post, x.boat(0, 6));
                x.set(5, 1);
                due.is("post " + post + ", boy " + boy, boy > post ? 50 - boy : 50 - post, x.boat(0, 6));
            }
        }
    }

    // ---- a day

    @Says("THE LOCK is free at 0, READY as told.")
    static void freeAtNought() {
        LockTurns x = Due.told("above mail 0 9 0;");
        day(x, 0, 0, 1, 5, 0);
        due.is("stood(0)", 0, x.stood(0));
        x.set(2, 1);
        day(x, 18, 2, 1, 7, 1);
    }

    @Says("of BOATS that count as come and have not passed the one that the LAW takes")
    static void countsJustWhenItIsFree() {
        LockTurns x = Due.told("above coal 0 1 0;below coal 1 1 0;below mail 5 1 0;");
        passing(x, CARGO, 0, 2, 1);
        x.alter(2, 2, 6);
        passing(x, CARGO, 0, 1, 2);
        x.set(4, 1);
        passing(x, CARGO, 0, 2, 1);
        x.alter(2, 2, 7);
        passing(x, CARGO, 0, 1, 2);
        x.set(5, 1);
        x.alter(2, 4, 2);
        passing(x, CARGO, 0, 2, 1);
    }

    @Says("do none count, it is free till the first one does")
    static void freeTillTheFirstOneCounts() {
        LockTurns x = Due.told("above mail 99 1 0;");
        day(x, 0, 0, 1, 104, 0);
        x.cross(0);
        day(x, 2, 2, 1, 106, 1);
        LockTurns y = Due.told("above mail 99 1 0;above mail 98 1 0;above mail 1 1 0;");
        passing(y, GATE, 2, 1, 0);
        due.is("through(2)", 6, y.through(2));
        due.is("turned when it counts", 105, y.through(1));
        due.is("through(0)", 112, y.through(0));
    }

    @Says("For that one THE LOCK is turned, if it is READY for the other side: it takes TURN")
    static void turnedFromNoughtToNine() {
        for (int turn = 0; turn <= 9; turn++) {
            LockTurns x = Due.told("below mail 0 1 0;");
            x.set(1, turn);
            due.is("stood(0)", turn, x.stood(0));
            due.is("day(4)", 1, x.day(4));
            due.is("day(2)", 1, x.day(2));
            x.set(2, 1);
            due.is("stood(0)", 0, x.stood(0));
            due.is("day(4)", 0, x.day(4));
            due.is("day(2)", 0, x.day(2));
        }
    }

    @Says("it passes from then on, but not ahead of its ARRIVES")
    static void notAheadOfItsArriving() {
        for (int turn = 0; turn <= 9; turn++) {
            LockTurns x = Due.told("post 5;below mail 20 1 0;");
            x.set(1, turn);
            due.is("stood(0), turned in " + turn, turn <= 5 ? 0 : turn - 5, x.stood(0));
            due.is("through(0)", turn <= 5 ? 25 : 20 + turn, x.through(0));
        }
        LockTurns y = Due.told("post 9;above mail 9 1 0;above mail 9 1 0;");
        due.is("it is taken at 0 and held till 9", 14, y.through(0));
        due.is("the other one behind it", 21, y.through(1));
    }

    @Says("it is THROUGH by PASS later; THE LOCK is free then, READY for the other side")
    static void throughByPassLater() {
        for (int pass = 1; pass <= 9; pass++) {
            LockTurns x = Due.told("above mail 0 1 0;below mail 0 1 0;above mail 0 1 0;");
            x.set(0, pass);
            for (int b = 0; b < 3; b++) {
                due.is("through(" + b + ")", (b + 1) * pass, x.through(b));
            }
            due.is("day(4)", 0, x.day(4));
        }
    }

    @Says("It STOOD the minutes from ARRIVES on till it passes.")
    static void stoodFromItsArriving() {
        LockTurns x = Due.told("post 9;hand;above mail 9 1 9;below mail 13 1 0;below mail 14 1 0;");
        due.is("stood(0)", 0, x.stood(0));
        due.is("stood(1)", 1, x.stood(1));
        due.is("stood(2)", 7, x.stood(2));
    }

    @Says("WATER: 1 for each BOAT from above, 1 for each time that THE LOCK is turned so as to be READY for below.")
    static void waterOfBothSides() {
        for (int n = 0; n <= 6; n++) {
            LockTurns x = Sentences.boats(n);
            due.is("all from above: turned for above costs none", n, x.day(2));
            due.is("day(4)", n < 1 ? 0 : n - 1, x.day(4));
            for (int b = 0; b < n; b++) {
                x.cross(b);
            }
            due.is("all from below: turned for below each time", n, x.day(2));
            due.is("day(4)", n, x.day(4));
            x.set(2, 1);
            due.is("all from below, ready for the first", n < 1 ? 0 : n - 1, x.day(2));
            x.set(1, 0);
            due.is("turned in no time", n < 1 ? 0 : n - 1, x.day(2));
        }
    }

    @Says("COST of a DAY: STOOD times WORTH, summed.")
    static void costOfTheLeastAndTheMost() {
        LockTurns x = Due.told("lock 9 9 1;above mail0 9 0;above mail0 9 0;above mail0 9 0;above mail0 9 0;"
                + "above mail0 9 0;above mail0 9 0;");
        day(x, 9 * (9 + 27 + 45 + 63 + 81 + 99), 99, 6, 108, 6);
        for (int b = 0; b < 6; b++) {
            x.alter(b, 3, 0);
        }
        day(x, 0, 99, 6, 108, 6);
    }

    // ---- laws

    @Says("of several the one that counts from earlier on, then of the lesser number")
    static void amongAlikeOnes() {
        for (int law = 0; law < 5; law++) {
            passing(Due.told("above fish 0 1 0;above fish 1 1 0;above fish 1 1 0;"), law, 0, 1, 2);
            passing(Due.told("above fish 0 1 0;above fish 2 1 0;above fish 1 1 0;"), law, 0, 2, 1);
            passing(Due.told("hand;above fish 0 1 0;above fish 2 1 1;above fish 1 1 0;"), law, 0, 1, 2);
            passing(Due.told("hand;above fish 0 1 0;above fish 3 1 1;above fish 1 1 0;"), law, 0, 2, 1);
            passing(Due.told("post 3;above fish 3 1 0;above fish 2 1 0;above fish 1 1 0;"), law, 0, 1, 2);
        }
    }

    @Says("gate: all are alike")
    static void byGate() {
        LockTurns x = Due.told("below coal 0 1 0;above mail 0 1 0;above mail 0 1 0;liar 2;");
        passing(x, GATE, 0, 1, 2);
        x.alter(0, 2, 1);
        passing(x, GATE, 1, 2, 0);
    }

    @Says("ready: one from the SIDE for which it is READY, else one from the other")
    static void byReady() {
        LockTurns x = Due.told("above mail 0 1 0;above mail 0 1 0;below coal 5 1 0;");
        passing(x, READY, 0, 2, 1);
        x.alter(2, 2, 6);
        passing(x, READY, 0, 1, 2);
        passing(Due.told("below mail 0 1 0;below mail 0 1 0;"), READY, 0, 1);
    }

    @Says("twos: if the last two that passed were from one SIDE, one from the other SIDE, "
            + "else one from the SIDE of the last one (at first: READY); is there none, one from the other.")
    static void byTwos() {
        String six = "below mail 0 1 0;below mail 0 1 0;below mail 0 1 0;above mail 0 1 0;above mail 0 1 0;"
                + "above mail 0 1 0;";
        LockTurns x = Due.told(six);
        passing(x, TWOS, 3, 4, 0, 1, 5, 2);
        x.set(2, 1);
        passing(x, TWOS, 0, 1, 3, 4, 2, 5);
        LockTurns none = Due.told("below mail 0 1 0;below mail 0 1 0;below mail 0 1 0;above mail 30 1 0;");
        passing(none, TWOS, 0, 1, 2, 3);
        LockTurns one = Due.told("above mail 0 1 0;below mail 0 1 0;above mail 6 1 0;below mail 1 1 0;");
        passing(one, TWOS, 0, 1, 3, 2);
        one.alter(2, 2, 5);
        passing(one, TWOS, 0, 2, 1, 3);
    }

    @Says("twos: if the last two that passed were from one SIDE, one from the other SIDE")
    static void byTwosBehindThreeOfOneSide() {
        LockTurns x = Due.told("above mail 0 1 0;above mail 0 1 0;above mail 0 1 0;below mail 15 1 0;above mail 0 1 0;");
        passing(x, TWOS, 0, 1, 2, 3, 4);
        x.alter(3, 2, 20);
        passing(x, TWOS, 0, 1, 2, 4, 3);
    }

    @Says("cargo: that of the least CARGO told: who LIES tells 0")
    static void byCargo() {
        LockTurns x = Due.told("above coal 0 1 0;below beer 0 1 0;above fish 0 1 0;below mail 0 1 0;");
        passing(x, CARGO, 3, 2, 1, 0);
        x.lie(0, true);
        passing(x, CARGO, 0, 3, 2, 1);
        x.lie(0, false);
        x.lie(3, true);
        passing(x, CARGO, 3, 2, 1, 0);
    }

    @Says("queue: one from the SIDE of which more count as come then, alike many: as ready.")
    static void byQueue() {
        LockTurns x = Due.told("above mail 0 1 0;below mail 0 1 0;");
        passing(x, QUEUE, 0, 1);
        x.set(2, 1);
        passing(x, QUEUE, 1, 0);
        LockTurns y = Due.told("above mail 0 1 0;below mail 0 1 0;below mail 0 1 0;");
        passing(y, QUEUE, 1, 0, 2);
        y.alter(2, 2, 1);
        passing(y, QUEUE, 0, 1, 2);
        y.set(4, 1);
        passing(y, QUEUE, 1, 0, 2);
        LockTurns z = Due.told("lock 5 2 1;above mail 0 1 0;below mail 0 1 0;above mail 0 1 0;");
        passing(z, QUEUE, 0, 1, 2);
    }

    // ---- what is asked of a day

    @Says(promise = 12, value = "The i-th BOAT that passes (from 0). BAD.")
    static void passesOfNoneToSixBoats() {
        for (int n = 0; n <= 6; n++) {
            LockTurns x = Sentences.boats(n);
            due.is("passes(-1)", BAD, x.passes(-1));
            due.is("passes(" + n + ")", BAD, x.passes(n));
            for (int far : Sentences.FAR) {
                due.is("passes(" + far + ")", BAD, x.passes(far));
            }
            for (int i = 0; i < n; i++) {
                due.is("passes(" + i + ")", i, x.passes(i));
            }
            for (int b = 0; b < n; b++) {
                x.alter(b, 2, 9 - b);
            }
            for (int i = 0; i < n; i++) {
                due.is("the last ones come first", n - 1 - i, x.passes(i));
            }
        }
    }

    @Says(promise = 13, value = "When a BOAT is THROUGH. BAD.")
    static void throughOfNoneToSixBoats() {
        for (int n = 0; n <= 6; n++) {
            LockTurns x = Sentences.boats(n);
            due.is("through(-1)", BAD, x.through(-1));
            due.is("through(" + n + ")", BAD, x.through(n));
            for (int far : Sentences.FAR) {
                due.is("through(" + far + ")", BAD, x.through(far));
            }
            for (int b = 0; b < n; b++) {
                due.is("through(" + b + ")", 5 + 7 * b, x.through(b));
            }
        }
    }

    @Says(promise = 14, value = "How long a BOAT STOOD. BAD.")
    static void stoodOfNoneToSixBoats() {
        for (int n = 0; n <= 6; n++) {
            LockTurns x = Sentences.boats(n);
            due.is("stood(-1)", BAD, x.stood(-1));
            due.is("stood(" + n + ")", BAD, x.stood(n));
            for (int far : Sentences.FAR) {
                due.is("stood(" + far + ")", BAD, x.stood(far));
            }
            for (int b = 0; b < n; b++) {
                due.is("stood(" + b + ")", 7 * b, x.stood(b));
            }
        }
    }

    @Says(promise = 15, value = "0 COST, 1 the longest that one STOOD, 2 WATER, 3 when the last one is THROUGH "
            + "(0: there are none), 4 how often THE LOCK is turned. BAD.")
    static void dayBounds() {
        for (int n = 0; n <= 6; n++) {
            LockTurns x = Sentences.boats(n);
            int turned = n < 1 ? 0 : n - 1;
            due.is("day(-1)", BAD, x.day(-1));
            day(x, 7 * n * (n - 1) / 2, 7 * turned, n, n < 1 ? 0 : 7 * n - 2, turned);
            due.is("day(5)", BAD, x.day(5));
            for (int far : Sentences.FAR) {
                due.is("day(" + far + ")", BAD, x.day(far));
            }
        }
    }

    @Says(promise = 15, value = "3 when the last one is THROUGH (0: there are none)")
    static void dayOfNone() {
        for (String text : new String[] {"", "lock 9 9 1;law queue;post 9;hand;"}) {
            day(Due.told(text), 0, 0, 0, 0, 0);
        }
    }

    @Says(promise = 16, value = "Likewise, were the LAW so. BAD.")
    static void tableBounds() {
        LockTurns x = Due.told("law twos;below fish 1 5 0;below beer 1 3 0;above coal 1 2 0;");
        for (int what = 0; what < 5; what++) {
            due.is("table(-1, " + what + ")", BAD, x.table(-1, what));
            due.is("table(5, " + what + ")", BAD, x.table(5, what));
            due.is("table(2, " + what + ")", x.day(what), x.table(2, what));
        }
        int[] cost = {65, 61, 61, 65, 60};
        for (int law = 0; law < 5; law++) {
            due.is("table(" + law + ", -1)", BAD, x.table(law, -1));
            due.is("table(" + law + ", 0)", cost[law], x.table(law, 0));
            due.is("table(" + law + ", 5)", BAD, x.table(law, 5));
        }
        for (int far : Sentences.FAR) {
            due.is("table(" + far + ", 0)", BAD, x.table(far, 0));
            due.is("table(0, " + far + ")", BAD, x.table(0, far));
        }
        due.is("the law stays", 2, x.rule(3));
    }

    @Says(promise = 16, value = "Likewise, were the LAW so. BAD.")
    static void tableAndBestBelieveLiars() {
        LockTurns x = Due.told("above coal 0 9 0;above fish 0 1 0;above mail 1 1 0;liar 0;");
        int[] cost = {7 + 13, 7 + 13, 7 + 13, 6 + 14, 7 + 13};
        for (int law = 0; law < 5; law++) {
            due.is("table(" + law + ", 0)", cost[law], x.table(law, 0));
        }
        due.is("all alike", 0, x.best(0));
        x.alter(2, 3, 2);
        due.is("mail ahead of fish costs less", 3, x.best(0));
        x.lie(0, false);
        due.is("a true tale costs more", 14 * 9 + 6 * 2, x.table(3, 0));
        due.is("best(0)", 0, x.best(0));
    }

    @Says(promise = 16, value = "Likewise, were the LAW so. BAD.")
    static void tableOfNone() {
        LockTurns x = new LockTurns();
        for (int law = 0; law < 5; law++) {
            for (int what = 0; what < 5; what++) {
                due.is("table(" + law + ", " + what + ")", 0, x.table(law, what));
            }
        }
        due.is("table(5, 0)", BAD, x.table(5, 0));
        due.is("table(0, 5)", BAD, x.table(0, 5));
    }

    @Says(promise = 17, value = "The LAW by which that (0 to 4, as told above) is least, of several the first. BAD.")
    static void bestBounds() {
        LockTurns x = Sentences.boats(2);
        due.is("best(-1)", BAD, x.best(-1));
        due.is("best(5)", BAD, x.best(5));
        for (int far : Sentences.FAR) {
            due.is("best(" + far + ")", BAD, x.best(far));
        }
        for (int what = 0; what < 5; what++) {
            due.is("all alike", 0, x.best(what));
            due.is("there are none", 0, new LockTurns().best(what));
        }
    }

    @Says(promise = 17, value = "The LAW by which that (0 to 4, as told above) is least, of several the first. BAD.")
    static void bestOfEachLaw() {
        String[] texts = {
            "below beer 0 8 0;above fish 0 0 0;",
            "below mail 0 5 0;below coal 2 2 0;above coal 2 6 0;below fish 3 8 0;",
            "above mail 1 3 0;below coal 2 0 0;above coal 3 6 0;",
            "above coal 0 7 0;above mail 0 9 0;",
            "below fish 1 5 0;below beer 1 3 0;above coal 1 2 0;"};
        int[][] cost = {{16, 40, 40, 40, 40}, {224, 188, 224, 200, 224}, {48, 48, 30, 48, 48}, {63, 63, 63, 49, 63},
            {65, 61, 61, 65, 60}};
        for (int best = 0; best < 5; best++) {
            LockTurns x = Due.told(texts[best]);
            for (int law = 0; law < 5; law++) {
                due.is("table(" + law + ", 0)", cost[best][law], x.table(law, 0));
                x.set(3, law);
                due.is("best(0), whatever the law is", best, x.best(0));
            }
        }
    }

    @Says(promise = 17, value = "of several the first")
    static void bestOfSeveral() {
        LockTurns x = Due.told("below mail 0 1 0;above mail 0 9 0;");
        due.is("gate alone turns it", 1, x.table(0, 4));
        for (int law = 1; law < 5; law++) {
            due.is("the others but cargo do not", law == 3 ? 1 : 0, x.table(law, 4));
        }
        due.is("best(4): ready, twos and queue alike", 1, x.best(4));
    }

    @Says(promise = 18, value = "the least COST (what 0), 10 and i: the i-th one of the first such order by numbers. BAD.")
    static void orderBounds() {
        for (int n = 0; n <= 6; n++) {
            LockTurns x = Sentences.boats(n);
            due.is("order(-1)", BAD, x.order(-1));
            due.is("order(0)", 7 * n * (n - 1) / 2, x.order(0));
            for (int what = 1; what < 10; what++) {
                due.is("order(" + what + ")", BAD, x.order(what));
            }
            for (int i = 0; i < n; i++) {
                due.is("order(" + (10 + i) + ")", i, x.order(10 + i));
            }
            for (int what = 10 + n; what < 20; what++) {
                due.is("order(" + what + ")", BAD, x.order(what));
            }
            for (int far : Sentences.FAR) {
                due.is("order(" + far + ")", BAD, x.order(far));
            }
        }
    }

    private static void ordered(LockTurns x, int cost, int... want) {
        due.is("order(0)", cost, x.order(0));
        for (int i = 0; i < want.length; i++) {
            due.is("order(" + (10 + i) + ")", want[i], x.order(10 + i));
        }
    }

    @Says(promise = 18, value = "10 and i: the i-th one of the first such order by numbers")
    static void theFirstOrderByNumbers() {
        ordered(Due.told("above mail50 0 0;below mail40 0 0;above mail30 0 0;above mail20 0 0;below mail10 0 0;"
                + "above mail0 0 0;"), 0, 0, 1, 2, 3, 4, 5);
        ordered(Due.told("above mail50 9 0;above mail40 9 0;above mail30 9 0;above mail20 9 0;above mail10 9 0;"
                + "above mail0 9 0;"), 0, 5, 4, 3, 2, 1, 0);
        ordered(Due.told("above mail 0 1 0;above mail 0 1 0;above mail 0 9 0;"), 21, 2, 0, 1);
        ordered(Due.told("lock 9 9 1;above mail0 9 0;above mail0 9 0;above mail0 9 0;above mail0 9 0;"
                + "above mail0 9 0;above mail0 9 0;"), 2916, 0, 1, 2, 3, 4, 5);
    }

    @Says(promise = 18, value = "All BOATS in some order, whatever counts (THE LOCK waits for each)")
    static void orderWhateverCounts() {
        LockTurns x = Due.told("above coal 0 1 0;above beer 1 9 0;");
        for (int post = 0; post <= 9; post++) {
            for (int hand = 0; hand <= 1; hand++) {
                x.set(4, post);
                x.set(5, hand);
                x.set(3, post % 5);
                x.lie(hand, true);
                ordered(x, 8, 1, 0);
            }
        }
        ordered(Due.told("lock 9 9 0;below mail 9 9 0;"), 0, 0);
        ordered(Due.told("lock 9 9 0;below mail 8 9 0;"), 9, 0);
        ordered(Due.told("lock 9 9 0;below mail 99 9 0;"), 0, 0);
    }
}
