import java.lang.reflect.InvocationTargetException;
import java.lang.reflect.Method;
import java.util.ArrayList;
import java.util.Arrays;
import java.util.List;

/**
 * What is refused changes nothing (but THE TAPE, as told), and what only asks changes nothing: behind each such
 * call all is asked that can be asked, and must be as of another object that was made the same way without it.
 */
public final class RefusedTest {
    private static final int BAD = LockTurns.BAD, STATE = LockTurns.STATE, FULL = LockTurns.FULL,
            NONE = LockTurns.NONE;
    private static final int MIN = Integer.MIN_VALUE, MAX = Integer.MAX_VALUE;
    private static final int NEW = 0, SOME = 1, ALL = 2;
    private static final int PARTS = 6, TAPE_PART = 5;
    private static final Due due = new Due();

    private final int kind;
    private final List<List<Long>> untouched = new ArrayList<>();

    private RefusedTest(int kind) {
        this.kind = kind;
        for (int part = 0; part < PARTS; part++) {
            untouched.add(told(made(), part));
        }
    }

    public static void main(String[] args) {
        for (int kind = NEW; kind <= ALL; kind++) {
            due.during(new String[] {"a new one", "one with some", "one that is full"}[kind]);
            RefusedTest test = new RefusedTest(kind);
            test.refuses();
            test.asks();
            test.texts();
        }
        due.end();
    }

    // ---- three objects

    private LockTurns made() {
        LockTurns x = madeWithoutBytes();
        Due.feed(x, kind == NEW ? "" : kind == SOME ? "post 7;" : "hand;post 7;" + " ".repeat(148));
        return x;
    }

    private LockTurns madeWithoutBytes() {
        return kind == NEW ? new LockTurns() : kind == SOME ? some() : full();
    }

    /** Two boats, one of them seen, one image, a sheet without cells. */
    private static LockTurns some() {
        LockTurns x = Due.told("lock 4 3 1;law cargo;post 2;above coal 7 3 4;below fish 5 8 9;liar 0;");
        x.see(1, 1);
        x.keep(0);
        x.alter(0, 2, 8);
        x.sheet(0, 1, 0);
        return x;
    }

    /** Six boats, six seen, two images, sheets of each lane, a fault of a text and of a read. */
    private static LockTurns full() {
        LockTurns x = Due.told("law cargo;above coal7 3 4;below fish5 8 9;above fish5 2 1;above beer6 6 2;below coal0 1 0;"
                + "below mail9 9 9;liar1;liar3;");
        for (int i = 0; i < 6; i++) {
            x.see(i, x.passes(i));
        }
        x.keep(0);
        x.set(0, 3);
        x.set(5, 1);
        x.lie(3, false);
        x.cross(2);
        x.keep(1);
        x.alter(2, 2, 11);
        x.set(4, 1);
        for (int k = 0; k < 3; k++) {
            x.sheet(k, k, 6 - k);
            for (int i = 0; i < 6 - k; i++) {
                x.lay(k, i, (i + k) % 6);
            }
        }
        Due.feed(x, "!");
        x.text();
        x.read(3, 0, 0, 1);
        return x;
    }

    // ---- all that can be asked, part by part, as some of it changes what is asked

    private static List<Long> told(LockTurns x, int part) {
        List<Long> all = new ArrayList<>();
        switch (part) {
            case 0:
                tellLock(x, all);
                break;
            case 1:
                tellSeen(x, all);
                break;
            case 2:
            case 3:
                all.add((long) x.back(part - 2));
                tellLock(x, all);
                break;
            case 4:
                tellSheets(x, all);
                break;
            default:
                all.add((long) x.count(3));
                all.add((long) x.fault());
                all.add((long) x.text());
                all.add((long) x.fault());
                tellLock(x, all);
        }
        return all;
    }

    private static void tellLock(LockTurns x, List<Long> all) {
        for (int what = 0; what < 8; what++) {
            all.add((long) x.rule(what));
        }
        for (int b = 0; b < 6; b++) {
            for (int what = 0; what < 7; what++) {
                all.add((long) x.boat(b, what));
            }
            all.add((long) x.passes(b));
            all.add((long) x.through(b));
        }
        for (int what : new int[] {0, 1, 2, 4, 5}) {
            all.add((long) x.count(what));
        }
        all.add((long) x.torn());
    }

    private static void tellSeen(LockTurns x, List<Long> all) {
        for (int n = 6; n >= 0; n--) {
            all.add((long) x.forget(n));
            for (int what = 0; what < 4; what++) {
                all.add((long) x.fits(what));
            }
        }
    }

    private static void tellSheets(LockTurns x, List<Long> all) {
        for (int k = 0; k < 4; k++) {
            for (int lane = 0; lane < 3; lane++) {
                all.add((long) x.read(k, lane, 0, 1));
                all.add((long) x.torn());
            }
        }
        for (int k = 0; k < 3; k++) {
            for (int f = 0; f < 6; f++) {
                all.add((long) x.read(k, k, f, 1));
                for (int b = 0; b < 6; b++) {
                    all.add((long) x.boat(b, 2));
                }
            }
        }
    }

    // ---- calls

    private static long call(LockTurns x, String name, Object... arguments) {
        for (Method method : LockTurns.class.getDeclaredMethods()) {
            if (method.getName().equals(name)) {
                try {
                    return ((Number) method.invoke(x, arguments)).longValue();
                } catch (IllegalAccessException | InvocationTargetException e) {
                    throw new IllegalStateException(name + Arrays.toString(arguments), e);
                }
            }
        }
        throw new IllegalStateException(name);
    }

    private void refused(long want, String name, Object... arguments) {
        for (int part = 0; part < PARTS; part++) {
            LockTurns x = made();
            String call = name + Arrays.toString(arguments);
            due.is(call, want, call(x, name, arguments));
            isUntouched(call, x, part);
        }
    }

    private void asked(String name, Object... arguments) {
        for (int part = 0; part < PARTS; part++) {
            LockTurns x = made();
            long answer = call(x, name, arguments);
            isUntouched(name + Arrays.toString(arguments) + ", " + answer, x, part);
        }
    }

    private void isUntouched(String call, LockTurns x, int part) {
        List<Long> is = told(x, part);
        List<Long> was = untouched.get(part);
        due.is(call + ": as much is told", was.size(), is.size());
        for (int i = 0; i < was.size(); i++) {
            due.is("behind " + call + ", part " + part + " at " + i, was.get(i), is.get(i));
        }
    }

    private int boats() {
        return kind == NEW ? 0 : kind == SOME ? 2 : 6;
    }

    private void refuses() {
        refusesOfTheText();
        refusesOfChanges();
        refusesOfDays();
        refusesOfLaws();
        refusesOfTheKeeper();
        refusesOfImages();
        refusesOfSheets();
    }

    private void refusesOfTheText() {
        for (int c : new int[] {MIN, -1, 128, 256, MAX}) {
            refused(BAD, "feed", c);
        }
        if (kind == ALL) {
            refused(FULL, "feed", 0);
            refused(FULL, "feed", 127);
        }
        int bytes = kind == NEW ? 0 : kind == SOME ? 7 : 160;
        for (int n : new int[] {MIN, -1, bytes + 1, MAX}) {
            refused(BAD, "end", n);
        }
        for (int what : new int[] {MIN, -1, 8, MAX}) {
            refused(BAD, "rule", what);
        }
        refused(BAD, "boat", -1, 0);
        refused(BAD, "boat", boats(), 0);
        refused(BAD, "boat", 0, -1);
        refused(BAD, "boat", 0, 7);
    }

    private void refusesOfChanges() {
        int[] least = {1, 0, 0, 0, 0, 0};
        int[] most = {9, 9, 1, 4, 9, 1};
        for (int what = 0; what < 6; what++) {
            refused(BAD, "set", what, least[what] - 1);
            refused(BAD, "set", what, most[what] + 1);
        }
        refused(BAD, "set", -1, 1);
        refused(BAD, "set", 6, 1);
        int[] mostOfBoat = {1, 3, 99, 9, 9};
        for (int what = 1; what < 5; what++) {
            refused(BAD, "alter", 0, what, -1);
            refused(BAD, "alter", 0, what, mostOfBoat[what] + 1);
            refused(BAD, "alter", -1, what, 1);
            refused(BAD, "alter", boats(), what, 1);
        }
        refused(BAD, "alter", 0, 0, 1);
        refused(BAD, "alter", 0, 5, 1);
        for (int b : new int[] {MIN, -1, boats(), MAX}) {
            refused(BAD, "lie", b, true);
            refused(BAD, "lie", b, false);
            refused(BAD, "cross", b);
        }
    }

    private void refusesOfDays() {
        for (int b : new int[] {MIN, -1, boats(), MAX}) {
            refused(BAD, "passes", b);
            refused(BAD, "through", b);
            refused(BAD, "stood", b);
        }
        for (int what : new int[] {-1, 5}) {
            refused(BAD, "day", what);
            refused(BAD, "table", 0, what);
            refused(BAD, "table", what, 0);
            refused(BAD, "best", what);
        }
        for (int what : new int[] {-1, 1, 9, 10 + boats()}) {
            refused(BAD, "order", what);
        }
    }

    private void refusesOfLaws() {
        for (int b : new int[] {-1, boats()}) {
            refused(BAD, "firsts", b);
            refused(BAD, "gain", b);
            refused(BAD, "boy", b, 0);
            refused(BAD, "boy", 0, b);
            refused(BAD, "late", b);
            refused(BAD, "deal", b, 0, 0);
            refused(BAD, "deal", 0, b, 0);
        }
        refused(BAD, "boy", 0, 0);
        refused(BAD, "deal", 0, 0, 0);
        refused(BAD, "deal", 0, 1, -1);
        refused(BAD, "deal", 0, 1, 3);
        for (int what : new int[] {-1, 2}) {
            refused(BAD, "rests", what);
            refused(BAD, "post", what);
        }
        if (kind == SOME) {
            refused(NONE, "boy", 0, 1);
        }
    }

    private void refusesOfTheKeeper() {
        for (int v : new int[] {-1, 11}) {
            refused(BAD, "mean", v, 0, 0);
            refused(BAD, "luck", v, 0, 0, 0);
        }
        for (int b : new int[] {-1, boats()}) {
            refused(BAD, "mean", 5, b, 0);
            refused(BAD, "luck", 5, b, 0, 0);
            refused(BAD, "luck", 5, 0, b, 0);
            refused(BAD, "see", b, 0);
            refused(BAD, "see", 0, b);
        }
        for (int what : new int[] {-1, 2}) {
            refused(BAD, "mean", 5, 0, what);
            refused(BAD, "luck", 5, 0, 0, what);
            refused(BAD, "drift", 1, 1, what);
        }
        if (kind == ALL) {
            refused(FULL, "see", 0, 0);
            refused(FULL, "see", 5, 5);
        }
        int seen = kind == NEW ? 0 : kind == SOME ? 1 : 6;
        for (int n : new int[] {MIN, -1, seen + 1, MAX}) {
            refused(BAD, "forget", n);
        }
        refused(BAD, "fits", -1);
        refused(BAD, "fits", 4);
        refused(BAD, "drift", 1, 0, 0);
        refused(BAD, "drift", 1, 21, 0);
    }

    private void refusesOfImages() {
        for (int k : new int[] {MIN, -1, 2, MAX}) {
            refused(BAD, "keep", k);
            refused(BAD, "back", k);
        }
        if (kind != ALL) {
            refused(STATE, "back", 1);
        }
        if (kind == NEW) {
            refused(STATE, "back", 0);
        }
        refused(BAD, "count", -1);
        refused(BAD, "count", 6);
    }

    private void refusesOfSheets() {
        for (int k = 0; k < 4; k++) {
            refused(-14, "sheet", k, 0, -1);
            refused(-14, "sheet", k, 2, MIN);
            refused(BAD, "sheet", k, 1, 41);
            refused(BAD, "sheet", k, -1, 1);
            refused(BAD, "sheet", k, 3, 1);
            int cells = kind == SOME && k == 0 ? 0 : kind == ALL && k < 3 ? 6 - k : -1;
            for (int i : new int[] {MIN, -1, Math.max(cells, 0), 40, MAX}) {
                refused(cells < 0 ? -11 : -12, "lay", k, i, 1);
            }
            refused(BAD, "read", k, -1, 0, 1);
            refused(BAD, "read", k, 3, 0, 1);
            refused(BAD, "read", k, 0, 0, -1);
            refused(BAD, "read", k, 0, 0, 21);
        }
        for (int k : new int[] {-1, 4}) {
            refused(BAD, "sheet", k, 0, 1);
            refused(BAD, "lay", k, 0, 1);
            refused(BAD, "read", k, 0, 0, 1);
        }
        if (kind == ALL) {
            readsThatAlterRefuses();
        }
    }

    /** Of the row 0, 1, 2, 3, 4, 5 the last pair is changed first, in the object and in the one beside it. */
    private void readsThatAlterRefuses() {
        for (int[] pair : new int[][] {{6, 5}, {-1, 5}, {4, 100}, {4, -1}}) {
            for (int part = 0; part < PARTS; part++) {
                LockTurns x = made();
                LockTurns beside = made();
                for (LockTurns one : new LockTurns[] {x, beside}) {
                    one.lay(0, 4, pair[0]);
                    one.lay(0, 5, pair[1]);
                }
                due.is("read(0, 0, 0, 3)", -22, x.read(0, 0, 0, 3));
                due.is("all is told as beside", 1, told(beside, part).equals(told(x, part)) ? 1 : 0);
            }
        }
    }

    // ---- what only asks

    private void asks() {
        for (String name : new String[] {"fault", "calm", "torn"}) {
            asked(name);
        }
        for (int what = 0; what < 8; what++) {
            for (String name : new String[] {"rule", "day", "best", "rests", "post", "fits", "count"}) {
                asked(name, what);
            }
            asked("table", what % 5, what / 2);
            asked("drift", what * 1000003, 1 + what * 2, what % 2);
        }
        for (int b = 0; b < boats(); b++) {
            for (String name : new String[] {"passes", "through", "stood", "firsts", "gain", "late"}) {
                asked(name, b);
            }
            int c = (b + 1) % boats();
            asked("boat", b, 6);
            asked("boy", b, c);
            asked("deal", b, c, b % 3);
            asked("mean", b, b, b % 2);
            asked("luck", 3, b, c, b % 2);
            asked("order", b == 0 ? 0 : 10 + b);
        }
    }

    // ---- texts that are refused: the tape is empty then and the fault is theirs, all else stays

    private void texts() {
        String six = "above mail0 0 0;".repeat(6);
        String[] texts = {"hand;post 9;!", "lock 9 9 1;law twos", "law queue;post 10;", "hand;hand;", six + "below",
            "below coal 9 9 9;liar 1;"};
        for (int fault = 1; fault <= 6; fault++) {
            for (int part = 0; part < TAPE_PART; part++) {
                LockTurns x = madeWithoutBytes();
                Due.feed(x, texts[fault - 1]);
                due.is("refused", 1, x.text() <= -10 ? 1 : 0);
                due.is("fault()", fault, x.fault());
                due.is("count(3)", 0, x.count(3));
                isUntouched("text() of fault " + fault, x, part);
            }
        }
    }
}
