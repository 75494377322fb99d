/** Each sentence of promises 27 to 32 that names a boundary, held by a test of its own. */
public final class KeeperBoundsTest {
    private static final int BAD = LockTurns.BAD, FULL = LockTurns.FULL, NONE = LockTurns.NONE;
    private static final int MIN = Integer.MIN_VALUE, MAX = Integer.MAX_VALUE;
    private static final int CARGO = 3;
    private static final Due due = new Due();

    public static void main(String[] args) {
        Sentences.run(KeeperBoundsTest.class, due, 27, 32);
    }

    /** So many with coal, all from above at 0, all of them liars: each place further back is 7 minutes more. */
    private static LockTurns liars(int n) {
        LockTurns x = Sentences.boats(n);
        for (int b = 0; b < n; b++) {
            x.alter(b, 1, 3);
            x.lie(b, true);
        }
        x.set(3, CARGO);
        return x;
    }

    private static void mean(LockTurns x, int v, int b, long above, long below) {
        due.is("mean(" + v + ", " + b + ", 0)", above, x.mean(v, b, 0));
        due.is("mean(" + v + ", " + b + ", 1)", below, x.mean(v, b, 1));
    }

    private static void luck(LockTurns x, int v, int b, int i, long above, long below) {
        due.is("luck(" + v + ", " + b + ", " + i + ", 0)", above, x.luck(v, b, i, 0));
        due.is("luck(" + v + ", " + b + ", " + i + ", 1)", below, x.luck(v, b, i, 1));
    }

    // ---- mean

    @Says(promise = 27, value = "Each liar is SEEN THROUGH by v out of ten (0 to 10), by itself: "
            + "the mean of how long a BOAT STOOD: 0, 1. BAD.")
    static void meanOfNoneToSixBoats() {
        for (int n = 0; n <= 6; n++) {
            LockTurns x = liars(n);
            for (int what = 0; what <= 1; what++) {
                due.is("mean(0, -1, " + what + ")", BAD, x.mean(0, -1, what));
                due.is("mean(10, " + n + ", " + what + ")", BAD, x.mean(10, n, what));
                for (int far : Sentences.FAR) {
                    due.is("mean(5, " + far + ", " + what + ")", BAD, x.mean(5, far, what));
                    due.is("mean(" + far + ", 0, " + what + ")", BAD, x.mean(far, 0, what));
                }
                due.is("mean(-1, 0, " + what + ")", BAD, x.mean(-1, 0, what));
                due.is("mean(11, 0, " + what + ")", BAD, x.mean(11, 0, what));
            }
            due.is("mean(5, 0, -1)", BAD, x.mean(5, 0, -1));
            due.is("mean(5, 0, 2)", BAD, x.mean(5, 0, 2));
            for (int far : Sentences.FAR) {
                due.is("mean(5, 0, " + far + ")", BAD, x.mean(5, 0, far));
            }
            for (int b = 0; b < n; b++) {
                mean(x, 0, b, 7 * b, 1);
                mean(x, 10, b, 7 * b, 1);
            }
        }
    }

    @Says(promise = 27, value = "Each liar is SEEN THROUGH by v out of ten (0 to 10), by itself")
    static void meanOfSixLiars() {
        LockTurns x = liars(6);
        // The first one: seen through (0.1) it stands behind those of the other five that are not (0.9).
        mean(x, 1, 0, 63, 20);
        // The last one: behind those not seen through (0.9 of five) if it is not (0.9), else behind all.
        mean(x, 1, 5, 637, 20);
        mean(x, 9, 0, 63, 20);
        mean(x, 5, 5, 105, 4);
        due.is("stood() is of lies that are believed", 35, x.stood(5));
    }

    @Says("Fractions are in lowest terms, the denominator above 0 (0 is 0 by 1).")
    static void meanInLowestTerms() {
        LockTurns x = Due.told("law cargo;above fish 0 1 0;above coal 0 1 0;liar 1;");
        int[] above = {0, 7, 7, 21, 14, 7, 21, 49, 28, 63, 7};
        int[] below = {1, 10, 5, 10, 5, 2, 5, 10, 5, 10, 1};
        for (int v = 0; v <= 10; v++) {
            mean(x, v, 1, above[v], below[v]);
        }
        mean(x, 10, 0, 0, 1);
        mean(x, 0, 0, 7, 1);
        x.lie(1, false);
        mean(x, 5, 0, 0, 1);
        mean(x, 5, 1, 7, 1);
    }

    @Says("A LIAR that is SEEN THROUGH tells 4 (behind coal).")
    static void seenThroughBehindCoal() {
        LockTurns x = Due.told("law cargo;above mail 0 1 0;above coal 0 1 0;liar 0;");
        mean(x, 10, 0, 7, 1);
        mean(x, 10, 1, 0, 1);
        mean(x, 0, 0, 0, 1);
        x.lie(1, true);
        mean(x, 10, 0, 0, 1);
        mean(x, 10, 1, 7, 1);
        for (int law = 0; law < 5; law++) {
            x.set(3, law);
            x.lie(1, false);
            mean(x, 10, 0, law == CARGO ? 7 : 0, 1);
        }
    }

    // ---- luck

    @Says(promise = 28, value = "Likewise, that a BOAT is the i-th one that passes: 0, 1. BAD.")
    static void luckOfNoneToSixBoats() {
        for (int n = 0; n <= 6; n++) {
            LockTurns x = liars(n);
            due.is("luck(5, -1, 0, 0)", BAD, x.luck(5, -1, 0, 0));
            due.is("luck(5, " + n + ", 0, 0)", BAD, x.luck(5, n, 0, 0));
            due.is("luck(5, 0, -1, 0)", BAD, x.luck(5, 0, -1, 0));
            due.is("luck(5, 0, " + n + ", 0)", BAD, x.luck(5, 0, n, 0));
            due.is("luck(-1, 0, 0, 0)", BAD, x.luck(-1, 0, 0, 0));
            due.is("luck(11, 0, 0, 0)", BAD, x.luck(11, 0, 0, 0));
            due.is("luck(5, 0, 0, -1)", BAD, x.luck(5, 0, 0, -1));
            due.is("luck(5, 0, 0, 2)", BAD, x.luck(5, 0, 0, 2));
            for (int far : Sentences.FAR) {
                due.is("luck(" + far + ", 0, 0, 0)", BAD, x.luck(far, 0, 0, 0));
                due.is("luck(5, " + far + ", 0, 0)", BAD, x.luck(5, far, 0, 0));
                due.is("luck(5, 0, " + far + ", 0)", BAD, x.luck(5, 0, far, 0));
                due.is("luck(5, 0, 0, " + far + ")", BAD, x.luck(5, 0, 0, far));
            }
            for (int b = 0; b < n; b++) {
                for (int v = 0; v <= 10; v += 10) {
                    luck(x, v, b, b, 1, 1);
                    luck(x, v, b, (b + 1) % n, n == 1 ? 1 : 0, 1);
                }
            }
        }
    }

    @Says("Fractions are in lowest terms, the denominator above 0 (0 is 0 by 1).")
    static void luckOfSixLiars() {
        LockTurns x = liars(6);
        // It is not seen through (0.9), or all are (0.1 to the sixth power).
        luck(x, 1, 0, 0, 900001, 1000000);
        // It alone is seen through.
        luck(x, 1, 0, 5, 59049, 1000000);
        // None is seen through, or it is.
        luck(x, 1, 5, 5, 631441, 1000000);
        luck(x, 5, 0, 0, 33, 64);
        luck(x, 5, 5, 0, 1, 64);
        // It alone is not: 256 by 1000000.
        luck(x, 2, 5, 0, 4, 15625);
        luck(x, 0, 5, 0, 0, 1);
    }

    @Says(promise = 28, value = "Likewise, that a BOAT is the i-th one that passes")
    static void luckOfAllPlacesIsOne() {
        LockTurns x = liars(6);
        for (int v = 0; v <= 10; v += 5) {
            for (int b = 0; b < 6; b++) {
                long sum = 0;
                for (int i = 0; i < 6; i++) {
                    sum += x.luck(v, b, i, 0) * 64 / x.luck(v, b, i, 1);
                }
                due.is("all places of " + b + " by " + v, 64, sum);
            }
        }
    }

    // ---- seen

    @Says(promise = 29, value = "SEEN: the i-th one that passed was a BOAT: how many are. BAD; FULL.")
    static void seeOfNoneToSixBoats() {
        for (int n = 0; n <= 6; n++) {
            LockTurns x = Sentences.boats(n);
            for (int v = -1; v <= n; v++) {
                due.is("see(" + v + ", -1)", BAD, x.see(v, -1));
                due.is("see(-1, " + v + ")", BAD, x.see(-1, v));
                due.is("see(" + v + ", " + n + ")", BAD, x.see(v, n));
                due.is("see(" + n + ", " + v + ")", BAD, x.see(n, v));
            }
            for (int far : Sentences.FAR) {
                due.is("see(" + far + ", 0)", BAD, x.see(far, 0));
                due.is("see(0, " + far + ")", BAD, x.see(0, far));
            }
            due.is("none is seen", 0, x.count(1));
            if (n > 0) {
                due.is("see(0, 0)", 1, x.see(0, 0));
                due.is("see(0, " + (n - 1) + ")", 2, x.see(0, n - 1));
                due.is("see(" + (n - 1) + ", 0)", 3, x.see(n - 1, 0));
                due.is("see(" + (n - 1) + ", " + (n - 1) + ")", 4, x.see(n - 1, n - 1));
                due.is("count(1)", 4, x.count(1));
            }
        }
    }

    @Says("SEEN (6): the i-th one that passed (from 0) was a BOAT.")
    static void seeUpToFull() {
        LockTurns x = Sentences.boats(2);
        for (int n = 1; n <= 6; n++) {
            due.is("the same again", n, x.see(0, 0));
        }
        due.is("the 7th", FULL, x.see(0, 0));
        due.is("the 7th", FULL, x.see(1, 1));
        due.is("BAD ahead of FULL", BAD, x.see(0, 2));
        due.is("BAD ahead of FULL", BAD, x.see(2, 0));
        due.is("BAD ahead of FULL", BAD, x.see(-1, 0));
        due.is("count(1)", 6, x.count(1));
        due.is("forget(5)", 6, x.forget(5));
        due.is("the 6th again", 6, x.see(1, 1));
        due.is("FULL again", FULL, x.see(1, 1));
    }

    @Says(promise = 30, value = "SEEN are the first n alone: how many there were. BAD.")
    static void forgetBounds() {
        for (int n = 0; n <= 6; n++) {
            LockTurns x = Sentences.boats(1);
            for (int i = 0; i < n; i++) {
                x.see(0, 0);
            }
            due.is("forget(-1)", BAD, x.forget(-1));
            due.is("forget(" + (n + 1) + ")", BAD, x.forget(n + 1));
            for (int far : Sentences.FAR) {
                due.is("forget(" + far + ")", BAD, x.forget(far));
            }
            due.is("count(1)", n, x.count(1));
            due.is("forget(" + n + ")", n, x.forget(n));
            due.is("count(1)", n, x.count(1));
            if (n > 0) {
                due.is("forget(" + (n - 1) + ")", n, x.forget(n - 1));
                due.is("forget(" + n + ")", BAD, x.forget(n));
            }
            due.is("forget(0)", Math.max(0, n - 1), x.forget(0));
            due.is("count(1)", 0, x.count(1));
            due.is("forget(0)", 0, x.forget(0));
        }
    }

    @Says(promise = 30, value = "SEEN are the first n alone: how many there were. BAD.")
    static void forgetKeepsTheFirstOnes() {
        LockTurns x = Due.told("above fish 0 1 0;above coal 0 1 0;");
        x.see(0, 1);
        x.see(1, 1);
        due.is("none fits", 0, x.fits(0));
        due.is("forget(1)", 2, x.forget(1));
        due.is("the first one is seen still", 1, x.fits(0));
        due.is("it lies", 2, x.fits(2));
        due.is("see(1, 0)", 2, x.see(1, 0));
        due.is("one more that fits too", 1, x.fits(0));
        due.is("forget(0)", 2, x.forget(0));
        due.is("all fit", 20, x.fits(0));
    }

    // ---- fits

    @Says(promise = 31, value = "how many pairs (what 0), LAWS that are in some (1; bits), "
            + "BOATS that LIE in all of them (2), in none (3; bits). BAD")
    static void fitsOfNoneToSixBoats() {
        for (int n = 0; n <= 6; n++) {
            LockTurns x = Sentences.boats(n);
            due.is("fits(-1)", BAD, x.fits(-1));
            due.is("all pairs", 5 << n, x.fits(0));
            due.is("all laws", 31, x.fits(1));
            due.is("none lies in all", 0, x.fits(2));
            due.is("none lies in none", 0, x.fits(3));
            due.is("fits(4)", BAD, x.fits(4));
            for (int far : Sentences.FAR) {
                due.is("fits(" + far + ")", BAD, x.fits(far));
            }
        }
    }

    @Says(promise = 31, value = "NONE (2, 3): there is none.")
    static void fitsOfNone() {
        LockTurns x = Sentences.boats(6);
        due.is("see(0, 1)", 1, x.see(0, 1));
        due.is("mail is mail", 0, x.fits(0));
        due.is("fits(1)", 0, x.fits(1));
        due.is("fits(2)", NONE, x.fits(2));
        due.is("fits(3)", NONE, x.fits(3));
        due.is("BAD ahead of NONE", BAD, x.fits(4));
        due.is("BAD ahead of NONE", BAD, x.fits(-1));
    }

    @Says("A LAW and a set of liars FIT, if by them (all else as it is) all was as SEEN.")
    static void fitsOfSixSeen() {
        LockTurns x = Sentences.boats(6);
        for (int i = 0; i < 6; i++) {
            x.alter(i, 1, 3);
            x.see(i, 5 - i);
        }
        due.is("none can have passed so", 0, x.fits(0));
        x.forget(0);
        int[] seen = {5, 0, 1, 2, 3, 4};
        for (int i = 0; i < 6; i++) {
            due.is("see", i + 1, x.see(i, seen[i]));
        }
        due.is("only the last one lied", 1, x.fits(0));
        due.is("by cargo", 8, x.fits(1));
        due.is("fits(2)", 32, x.fits(2));
        due.is("fits(3)", 31, x.fits(3));
        x.lie(0, true);
        x.set(3, 2);
        due.is("whoever lies now, by whatever law", 1, x.fits(0));
        x.forget(5);
        due.is("the last place is the only one left", 1, x.fits(0));
        x.forget(1);
        due.is("the last one lied, none of the others", 1, x.fits(0));
        due.is("fits(3)", 31, x.fits(3));
    }

    @Says(promise = 31, value = "BOATS that LIE in all of them (2), in none (3; bits)")
    static void fitsOfEachLiar() {
        for (int b = 0; b < 6; b++) {
            LockTurns x = Sentences.boats(6);
            for (int c = 0; c < 6; c++) {
                x.alter(c, 1, c == b ? 3 : 2);
            }
            x.alter(b, 2, 1);
            x.see(1, b);
            due.is("it lies, and one of the five others or none", 6, x.fits(0));
            due.is("by cargo", 8, x.fits(1));
            due.is("it lies in all", 1 << b, x.fits(2));
            due.is("each other one lies in some", 0, x.fits(3));
            int ahead = b == 0 ? 1 : 0;
            x.see(0, ahead);
            due.is("that one lies or not", 2, x.fits(0));
            due.is("it lies in all", 1 << b, x.fits(2));
            due.is("all others lie in none", 63 - (1 << b) - (1 << ahead), x.fits(3));
        }
    }

    // ---- drift

    /** What the days cost by alter() and day(), the seed kept as a number of 32 bits without a sign. */
    private static int drifted(String text, int seed, int n, int what) {
        LockTurns x = Due.told(text);
        long s = seed & 0xffffffffL;
        int sum = 0;
        for (int i = 0; i < n; i++) {
            for (int b = 0; b < x.rule(6); b++) {
                s = (s * 1103515245L + 12345L) % (1L << 32);
                x.alter(b, 2, (int) (s / 65536 % 32768 % 40));
            }
            sum += x.day(what == 0 ? 0 : 2);
        }
        return sum;
    }

    @Says(promise = 32, value = "n DAYS (1 to 20) by a seed")
    static void driftBounds() {
        LockTurns x = Due.told("below mail 9 3 0;");
        for (int what = 0; what <= 1; what++) {
            due.is("drift(1, 0, " + what + ")", BAD, x.drift(1, 0, what));
            due.is("drift(1, -1, " + what + ")", BAD, x.drift(1, -1, what));
            due.is("drift(1, 21, " + what + ")", BAD, x.drift(1, 21, what));
            for (int far : Sentences.FAR) {
                due.is("drift(1, " + far + ", " + what + ")", BAD, x.drift(1, far, what));
                due.is("drift(1, 1, " + far + ")", BAD, x.drift(1, 1, far));
            }
        }
        due.is("drift(1, 1, -1)", BAD, x.drift(1, 1, -1));
        due.is("drift(1, 1, 2)", BAD, x.drift(1, 1, 2));
        for (int n = 1; n <= 20; n++) {
            due.is("each day it is turned", 6 * n, x.drift(1, n, 0));
            due.is("each day it takes water", n, x.drift(1, n, 1));
        }
    }

    @Says(promise = 32, value = "n DAYS (1 to 20) by a seed")
    static void driftOfNone() {
        LockTurns x = new LockTurns();
        for (int n = 1; n <= 20; n++) {
            due.is("drift(7, " + n + ", 0)", 0, x.drift(7, n, 0));
            due.is("drift(7, " + n + ", 1)", 0, x.drift(7, n, 1));
        }
        due.is("drift(7, 21, 0)", BAD, x.drift(7, 21, 0));
    }

    @Says(promise = 32, value = "the seed becomes seed times 1103515245 and 12345; it ARRIVES by bits 16 to 30 of it modulo 40")
    static void driftOfSeedsThatWrapAround() {
        String[] texts = {"above mail 0 1 0;", "lock 9 9 0;post 9;below mail 0 9 0;",
            "above mail 9 3 0;below coal 9 9 0;above coal 9 5 0;law twos;",
            "lock9 9 1;above mail0 9 0;below mail0 8 0;above coal0 7 0;below fish0 6 0;above beer0 5 0;below coal0 4 0;"
                + "law cargo;liar 2;"};
        int[] seeds = {MIN, MIN + 1, -12345, -1, 0, 1, 12345, 1103515245, MAX - 1, MAX};
        for (String text : texts) {
            LockTurns x = Due.told(text);
            for (int seed : seeds) {
                for (int n = 1; n <= 20; n += 19) {
                    for (int what = 0; what <= 1; what++) {
                        due.is("drift(" + seed + ", " + n + ", " + what + ")", drifted(text, seed, n, what),
                                x.drift(seed, n, what));
                    }
                }
            }
        }
    }

    /** The lock is turned in 9 and the post stands 9 out: who arrives at 0 to 8 stands 9 to 1 minutes, else none. */
    @Says(promise = 32, value = "it ARRIVES by bits 16 to 30 of it modulo 40")
    static void driftToEachMinute() {
        LockTurns x = Due.told("lock 9 9 0;post 9;below mail 99 1 0;");
        boolean[] met = new boolean[40];
        for (int seed = 0; seed < 200; seed++) {
            long s = (seed * 1103515245L + 12345L) % (1L << 32);
            int arrives = (int) (s / 65536 % 32768 % 40);
            met[arrives] = true;
            due.is("arrives at " + arrives, Math.max(0, 9 - arrives), x.drift(seed, 1, 0));
        }
        for (int minute = 0; minute < 40; minute++) {
            due.is("minute " + minute + " is met", 1, met[minute] ? 1 : 0);
        }
    }

    @Says(promise = 32, value = "By itself")
    static void driftChangesNothing() {
        LockTurns x = Due.told("above mail 9 3 1;below coal 8 9 2;");
        int first = x.drift(5, 20, 0);
        due.is("the same again", first, x.drift(5, 20, 0));
        due.is("boat(0, 2)", 9, x.boat(0, 2));
        due.is("boat(1, 2)", 8, x.boat(1, 2));
    }
}
