/** Each sentence of promises 33 to 39 that names a boundary, held by a test of its own. */
public final class SheetBoundsTest {
    private static final int BAD = LockTurns.BAD, STATE = LockTurns.STATE, NONE = LockTurns.NONE;
    private static final int MIN = Integer.MIN_VALUE, MAX = Integer.MAX_VALUE;
    private static final int BYTES = 0, SHORTS = 1, INTS = 2;
    private static final int NULL = 1, INDEX = 2, CAST = 3;
    private static final int CELLS = 40;
    private static final Due due = new Due();

    public static void main(String[] args) {
        Sentences.run(SheetBoundsTest.class, due, 33, 39);
    }

    private static void cells(LockTurns x, int k, int lane, int... cells) {
        due.is("sheet(" + k + ", " + lane + ", " + cells.length + ")", 1, x.sheet(k, lane, cells.length));
        for (int i = 0; i < cells.length; i++) {
            due.is("lay(" + k + ", " + i + ", " + cells[i] + ")", 1, x.lay(k, i, cells[i]));
        }
    }

    private static void torn(LockTurns x, String why, int fault) {
        due.is("torn(), " + why, fault, x.torn());
    }

    // ---- images

    @Says(promise = 33, value = "IMAGE k (0, 1) is THE LOCK, LAW, POST, HAND, BOATS (all of them), what was SEEN: "
            + "whether there was one (1, 0). BAD.")
    static void keepBounds() {
        for (int n = 0; n <= 6; n += 6) {
            LockTurns x = Sentences.boats(n);
            due.is("keep(-1)", BAD, x.keep(-1));
            due.is("keep(2)", BAD, x.keep(2));
            for (int far : Sentences.FAR) {
                due.is("keep(" + far + ")", BAD, x.keep(far));
            }
            due.is("no image", 0, x.count(2));
            due.is("keep(1)", 0, x.keep(1));
            due.is("one image", 1, x.count(2));
            due.is("keep(1) again", 1, x.keep(1));
            due.is("one image", 1, x.count(2));
            due.is("keep(0)", 0, x.keep(0));
            due.is("keep(0) again", 1, x.keep(0));
            due.is("two images", 2, x.count(2));
            due.is("keep(2)", BAD, x.keep(2));
            due.is("two images", 2, x.count(2));
        }
    }

    @Says(promise = 34, value = "All is as IMAGE k: when the last one is THROUGH. BAD; STATE: there is none.")
    static void backBounds() {
        LockTurns x = Sentences.boats(6);
        due.is("BAD ahead of STATE", BAD, x.back(-1));
        due.is("BAD ahead of STATE", BAD, x.back(2));
        for (int far : Sentences.FAR) {
            due.is("back(" + far + ")", BAD, x.back(far));
        }
        due.is("back(0)", STATE, x.back(0));
        due.is("back(1)", STATE, x.back(1));
        x.keep(0);
        due.is("back(1) of the other one", STATE, x.back(1));
        due.is("back(0)", 40, x.back(0));
        due.is("back(0) again", 40, x.back(0));
        x.keep(1);
        due.is("back(1)", 40, x.back(1));
        due.is("back(2)", BAD, x.back(2));
        due.is("the images stay", 2, x.count(2));
        due.text(x, "", 0);
        due.is("back(0) behind a text", STATE, x.back(0));
        due.is("back(1) behind a text", STATE, x.back(1));
    }

    @Says(promise = 34, value = "All is as IMAGE k: when the last one is THROUGH.")
    static void backToNoBoats() {
        LockTurns x = new LockTurns();
        due.is("keep(0)", 0, x.keep(0));
        due.is("set(0, 9)", 5, x.set(0, 9));
        due.is("back(0)", 0, x.back(0));
        due.is("rule(0)", 5, x.rule(0));
        due.is("rule(6)", 0, x.rule(6));
    }

    @Says(promise = 33, value = "IMAGE k (0, 1) is THE LOCK, LAW, POST, HAND, BOATS (all of them), what was SEEN")
    static void imagesOfSixBoatsAndSixSeen() {
        LockTurns x = Due.told("above mail0 1 2;above fish3 4 5;above beer6 7 8;below coal9 0 1;below mail2 3 4;"
                + "below fish5 6 7;liar 0;liar 5;");
        for (int i = 0; i < 6; i++) {
            x.see(i, 5 - i);
        }
        x.keep(0);
        for (int b = 0; b < 6; b++) {
            for (int what = 1; what <= 4; what++) {
                x.alter(b, what, 0);
            }
            x.cross(b);
            x.lie(b, b == 3);
        }
        for (int what = 0; what < 6; what++) {
            x.set(what, 1);
        }
        x.forget(0);
        x.see(0, 0);
        x.keep(1);
        for (int turn = 0; turn < 2; turn++) {
            x.back(0);
            firstImage(x);
            x.back(1);
            secondImage(x);
        }
    }

    private static void firstImage(LockTurns x) {
        int[] rules = {5, 2, 0, 0, 0, 0, 6, 33};
        for (int what = 0; what < 8; what++) {
            due.is("rule(" + what + ")", rules[what], x.rule(what));
        }
        int[][] boats = {{0, 0, 0, 1, 2, 1}, {0, 1, 3, 4, 5, 0}, {0, 2, 6, 7, 8, 0}, {1, 3, 9, 0, 1, 0},
            {1, 0, 2, 3, 4, 0}, {1, 1, 5, 6, 7, 1}};
        for (int b = 0; b < 6; b++) {
            for (int what = 0; what < 6; what++) {
                due.is("boat(" + b + ", " + what + ")", boats[b][what], x.boat(b, what));
            }
        }
        due.is("six are seen", 6, x.count(1));
        due.is("that do not fit", 0, x.fits(0));
    }

    private static void secondImage(LockTurns x) {
        int[] rules = {1, 1, 1, 1, 1, 1, 6, 8};
        for (int what = 0; what < 8; what++) {
            due.is("rule(" + what + ")", rules[what], x.rule(what));
        }
        for (int b = 0; b < 6; b++) {
            int[] boat = {1 - b / 3, 0, 0, 0, 0, b == 3 ? 1 : 0};
            for (int what = 0; what < 6; what++) {
                due.is("boat(" + b + ", " + what + ")", boat[what], x.boat(b, what));
            }
        }
        due.is("one is seen", 1, x.count(1));
    }

    @Says(promise = 33, value = "what was SEEN")
    static void imagesOfWhatWasSeen() {
        LockTurns x = Due.told("above fish 0 1 0;above coal 0 1 0;");
        due.is("see(0, 1)", 1, x.see(0, 1));
        x.keep(0);
        due.is("the second one lied itself ahead", 1, x.fits(0));
        x.forget(0);
        due.is("see(1, 1)", 1, x.see(1, 1));
        x.keep(1);
        due.is("it did not", 19, x.fits(0));
        x.forget(0);
        due.is("see(0, 0)", 1, x.see(0, 0));
        due.is("see(0, 1)", 2, x.see(0, 1));
        due.is("both can not be first", 0, x.fits(0));
        for (int turn = 0; turn < 2; turn++) {
            x.back(0);
            due.is("as of image 0", 1, x.fits(0));
            due.is("count(1)", 1, x.count(1));
            x.back(1);
            due.is("as of image 1", 19, x.fits(0));
            due.is("count(1)", 1, x.count(1));
        }
    }

    @Says(promise = 33, value = "IMAGE k (0, 1) is THE LOCK, LAW, POST, HAND, BOATS (all of them), what was SEEN")
    static void imagesHaveNoTapeAndNoSheets() {
        LockTurns x = Sentences.boats(1);
        x.keep(0);
        x.feed('a');
        x.feed('b');
        cells(x, 0, BYTES, 0, 7, 9);
        x.read(0, BYTES, 0, 2);
        due.is("boat(0, 2)", 7, x.boat(0, 2));
        due.is("back(0)", 5, x.back(0));
        due.is("boat(0, 2)", 0, x.boat(0, 2));
        due.is("the tape stays", 2, x.count(3));
        due.is("the sheet stays", 3, x.count(4));
        due.is("its cells stay", 1, x.read(0, BYTES, 0, 1));
        due.is("boat(0, 2)", 7, x.boat(0, 2));
    }

    // ---- sheets

    @Says(promise = 35, value = "A SHEET is a new row of CELLS 0: 1. BAD: also n above 40; -10 - 4.")
    static void sheetBounds() {
        for (int lane = 0; lane < 3; lane++) {
            for (int k = 0; k < 4; k++) {
                LockTurns x = new LockTurns();
                due.is("41 cells", BAD, x.sheet(k, lane, 41));
                due.is("-1 cells", -14, x.sheet(k, lane, -1));
                due.is("still nothing", -11, x.lay(k, 0, 0));
                due.is("40 cells", 1, x.sheet(k, lane, 40));
                due.is("the last cell", 1, x.lay(k, 39, 0));
                due.is("beyond", -12, x.lay(k, 40, 0));
                due.is("no cell", 1, x.sheet(k, lane, 0));
                due.is("beyond", -12, x.lay(k, 0, 0));
                due.is("one cell", 1, x.sheet(k, lane, 1));
                due.is("the first cell", 1, x.lay(k, 0, 0));
                due.is("beyond", -12, x.lay(k, 1, 0));
            }
        }
    }

    @Says(promise = 35, value = "BAD: also n above 40; -10 - 4.")
    static void sheetOfFarNumbers() {
        LockTurns x = new LockTurns();
        for (int far : Sentences.FAR) {
            due.is("sheet(0, 0, " + far + ")", far < 0 ? -14 : BAD, x.sheet(0, 0, far));
            due.is("sheet(" + far + ", 0, 1)", BAD, x.sheet(far, 0, 1));
            due.is("sheet(0, " + far + ", 1)", BAD, x.sheet(0, far, 1));
        }
        due.is("count(4)", NONE, x.count(4));
    }

    @Says("the first that fits")
    static void sheetIsBadAheadOfItsSize() {
        LockTurns x = new LockTurns();
        int[] sizes = {MIN, -1, 0, 40, 41, MAX};
        for (int n : sizes) {
            due.is("sheet(-1, 0, " + n + ")", BAD, x.sheet(-1, 0, n));
            due.is("sheet(4, 0, " + n + ")", BAD, x.sheet(4, 0, n));
            due.is("sheet(0, -1, " + n + ")", BAD, x.sheet(0, -1, n));
            due.is("sheet(0, 3, " + n + ")", BAD, x.sheet(0, 3, n));
        }
        due.is("count(4)", NONE, x.count(4));
    }

    @Says("what is refused changes nothing")
    static void sheetThatIsRefusedLeavesTheRow() {
        LockTurns x = Sentences.boats(1);
        cells(x, 0, SHORTS, 0, 77);
        due.is("sheet(0, 0, -1)", -14, x.sheet(0, 0, -1));
        due.is("sheet(0, 0, 41)", BAD, x.sheet(0, 0, 41));
        due.is("sheet(0, 3, 5)", BAD, x.sheet(0, 3, 5));
        due.is("count(4)", 2, x.count(4));
        due.is("read(0, 1, 0, 1)", 1, x.read(0, SHORTS, 0, 1));
        due.is("boat(0, 2)", 77, x.boat(0, 2));
    }

    @Says(promise = 35, value = "A SHEET is a new row of CELLS 0: 1.")
    static void sheetIsNewEachTime() {
        for (int lane = 0; lane < 3; lane++) {
            LockTurns x = Sentences.boats(1);
            x.sheet(2, lane, CELLS);
            for (int i = 0; i < CELLS; i++) {
                x.lay(2, i, i % 2 * 50);
            }
            due.is("read", 20, x.read(2, lane, 0, 20));
            due.is("boat(0, 2)", 50, x.boat(0, 2));
            x.sheet(2, lane, 1);
            x.sheet(2, lane, CELLS);
            for (int i = 0; i < CELLS - 1; i++) {
                x.alter(0, 2, 9);
                due.is("read from " + i, 1, x.read(2, lane, i, 1));
                due.is("boat(0, 2)", 0, x.boat(0, 2));
            }
        }
    }

    @Says("SHEETS 0 to 3 are rows of BYTES (lane 0), SHORTS (1), INTS (2) with 0 to 40 CELLS, or nothing (at first).")
    static void sheetsAreFour() {
        LockTurns x = Sentences.boats(4);
        for (int k = 0; k < 4; k++) {
            cells(x, k, k % 3, k, 10 + k);
        }
        for (int k = 0; k < 4; k++) {
            due.is("read(" + k + ")", 1, x.read(k, k % 3, 0, 1));
            due.is("boat(" + k + ", 2)", 10 + k, x.boat(k, 2));
        }
        x.sheet(1, INTS, 0);
        due.is("sheet 0 stays", 2, x.count(4));
        due.is("sheet 2 stays", 1, x.read(2, INTS, 0, 1));
        due.is("sheet 1 is of none", 0, x.read(1, INTS, 0, 1));
    }

    // ---- lay

    @Says(promise = 36, value = "BAD: k; -10 less the FAULT: NULL, INDEX.")
    static void layBounds() {
        LockTurns x = new LockTurns();
        int[] indices = {MIN, -1, 0, 39, 40, MAX};
        for (int i : indices) {
            due.is("lay(-1, " + i + ", 0)", BAD, x.lay(-1, i, 0));
            due.is("lay(4, " + i + ", 0)", BAD, x.lay(4, i, 0));
            due.is("nothing, whatever the cell", -11, x.lay(3, i, 0));
        }
        for (int far : Sentences.FAR) {
            due.is("lay(" + far + ", 0, 0)", BAD, x.lay(far, 0, 0));
        }
        for (int n = 0; n <= CELLS; n++) {
            x.sheet(3, n % 3, n);
            due.is("lay(3, -1, 0), " + n, -12, x.lay(3, -1, 0));
            due.is("lay(3, " + n + ", 0)", -12, x.lay(3, n, 0));
            if (n > 0) {
                due.is("lay(3, 0, 0), " + n, 1, x.lay(3, 0, 0));
                due.is("lay(3, " + (n - 1) + ", 0)", 1, x.lay(3, n - 1, 0));
            }
        }
        for (int far : Sentences.FAR) {
            due.is("lay(3, " + far + ", 0)", -12, x.lay(3, far, 0));
        }
    }

    /** What a cell keeps of v, if a boat can arrive then; else the machine's number is out of its bounds. */
    private static void kept(int lane, int v, int is) {
        LockTurns x = Sentences.boats(1);
        x.alter(0, 2, 55);
        cells(x, 0, lane, 0, v);
        boolean taken = is >= 0 && is <= 99;
        due.is("read of " + v + " in lane " + lane, taken ? 1 : -20, x.read(0, lane, 0, 1));
        due.is("boat(0, 2)", taken ? is : 55, x.boat(0, 2));
    }

    @Says(promise = 36, value = "CELL i of a SHEET becomes v (its lowest bits): 1.")
    static void layBytes() {
        kept(BYTES, 99, 99);
        kept(BYTES, 100, 100);
        kept(BYTES, 127, 127);
        kept(BYTES, 128, -128);
        kept(BYTES, 255, -1);
        kept(BYTES, 256, 0);
        kept(BYTES, 256 + 99, 99);
        kept(BYTES, 256 + 100, 100);
        kept(BYTES, -1, -1);
        kept(BYTES, -156, 100);
        kept(BYTES, -157, 99);
        kept(BYTES, -256, 0);
        kept(BYTES, 65536 + 7, 7);
        kept(BYTES, MAX, -1);
        kept(BYTES, MIN, 0);
        kept(BYTES, MIN + 42, 42);
    }

    @Says(promise = 36, value = "CELL i of a SHEET becomes v (its lowest bits): 1.")
    static void layShorts() {
        kept(SHORTS, 99, 99);
        kept(SHORTS, 100, 100);
        kept(SHORTS, 256, 256);
        kept(SHORTS, 256 + 99, 355);
        kept(SHORTS, 32767, 32767);
        kept(SHORTS, 32768, -32768);
        kept(SHORTS, 65535, -1);
        kept(SHORTS, 65536, 0);
        kept(SHORTS, 65536 + 99, 99);
        kept(SHORTS, 65536 + 100, 100);
        kept(SHORTS, -65536 + 99, 99);
        kept(SHORTS, -65536 - 1, -1);
        kept(SHORTS, MAX, -1);
        kept(SHORTS, MIN, 0);
        kept(SHORTS, MIN + 42, 42);
    }

    @Says(promise = 36, value = "CELL i of a SHEET becomes v (its lowest bits): 1.")
    static void layInts() {
        kept(INTS, 0, 0);
        kept(INTS, 99, 99);
        kept(INTS, 100, 100);
        kept(INTS, 256, 256);
        kept(INTS, 65536, 65536);
        kept(INTS, 65536 + 7, 65543);
        kept(INTS, -65536 + 99, -65437);
        kept(INTS, MAX, MAX);
        kept(INTS, MIN, MIN);
        kept(INTS, MIN + 42, MIN + 42);
    }

    // ---- read

    @Says(promise = 37, value = "BAD: k, lane, n")
    static void readBounds() {
        LockTurns x = Sentences.boats(1);
        x.sheet(0, BYTES, CELLS);
        due.is("read(-1, 0, 0, 1)", BAD, x.read(-1, 0, 0, 1));
        due.is("read(4, 0, 0, 1)", BAD, x.read(4, 0, 0, 1));
        due.is("read(0, -1, 0, 1)", BAD, x.read(0, -1, 0, 1));
        due.is("read(0, 3, 0, 1)", BAD, x.read(0, 3, 0, 1));
        due.is("read(0, 0, 0, -1)", BAD, x.read(0, 0, 0, -1));
        due.is("read(0, 0, 0, 21)", BAD, x.read(0, 0, 0, 21));
        for (int far : Sentences.FAR) {
            due.is("read(" + far + ", 0, 0, 1)", BAD, x.read(far, 0, 0, 1));
            due.is("read(0, " + far + ", 0, 1)", BAD, x.read(0, far, 0, 1));
            due.is("read(0, 0, 0, " + far + ")", BAD, x.read(0, 0, 0, far));
        }
        for (int n = 0; n <= 20; n++) {
            due.is("read(0, 0, 0, " + n + ")", n, x.read(0, BYTES, 0, n));
            torn(x, "none", 0);
        }
        for (int k = 0; k < 4; k++) {
            due.is("of none", 0, x.read(k, BYTES, 0, 0));
        }
    }

    @Says(promise = 37, value = "two CELLS each from CELL f on")
    static void readOfRowsOfAllSizes() {
        for (int size = 0; size <= CELLS; size++) {
            LockTurns x = Sentences.boats(1);
            x.sheet(1, INTS, size);
            int whole = size / 2;
            due.is("read of 20, " + size + " cells", whole, x.read(1, INTS, 0, 20));
            torn(x, size + " cells", whole < 20 ? INDEX : 0);
            if (whole > 0) {
                due.is("all of them", whole, x.read(1, INTS, 0, whole));
                torn(x, "all of " + size, 0);
            }
            if (whole < 20) {
                due.is("one more", whole, x.read(1, INTS, 0, whole + 1));
                torn(x, "one more than " + size, INDEX);
            }
        }
    }

    @Says(promise = 37, value = "two CELLS each from CELL f on")
    static void readFromTheFirstToTheLastCell() {
        LockTurns x = Sentences.boats(1);
        x.sheet(0, SHORTS, CELLS);
        for (int f = 0; f <= CELLS; f++) {
            boolean whole = f <= CELLS - 2;
            due.is("read from " + f, whole ? 1 : 0, x.read(0, SHORTS, f, 1));
            torn(x, "from " + f, whole ? 0 : INDEX);
        }
        for (int f : new int[] {MIN, MIN + 1, MIN + 2, -40, -2, -1, 41, MAX - 40, MAX - 1, MAX}) {
            due.is("read of 20 from " + f, 0, x.read(0, SHORTS, f, 20));
            torn(x, "from " + f, INDEX);
            due.is("read of 0 from " + f, 0, x.read(0, SHORTS, f, 0));
            torn(x, "none from " + f, 0);
        }
    }

    @Says(promise = 37, value = "a BOAT, when it ARRIVES are read")
    static void readWhatAlterTakes() {
        for (int n = 0; n <= 6; n++) {
            LockTurns x = Sentences.boats(n);
            int[] boats = {-1, n, n + 1, 127, -128};
            for (int b : boats) {
                cells(x, 0, BYTES, b, 5);
                due.is("no boat " + b + " of " + n, -20, x.read(0, BYTES, 0, 1));
            }
            for (int b = 0; b < n; b++) {
                cells(x, 0, BYTES, b, 99);
                due.is("boat " + b, 1, x.read(0, BYTES, 0, 1));
                due.is("boat(" + b + ", 2)", 99, x.boat(b, 2));
            }
        }
    }

    @Says(promise = 37, value = "a BOAT, when it ARRIVES are read")
    static void readFarBoats() {
        LockTurns x = Sentences.boats(6);
        for (int far : Sentences.FAR) {
            cells(x, 0, INTS, far, 5);
            due.is("no boat " + far, -20, x.read(0, INTS, 0, 1));
            cells(x, 0, INTS, 5, far);
            due.is("no minute " + far, -20, x.read(0, INTS, 0, 1));
        }
        cells(x, 0, INTS, 5, -1);
        due.is("minute -1", -20, x.read(0, INTS, 0, 1));
        cells(x, 0, INTS, 5, 100);
        due.is("minute 100", -20, x.read(0, INTS, 0, 1));
        due.is("boat(5, 2)", 0, x.boat(5, 2));
        cells(x, 0, INTS, 5, 99);
        due.is("minute 99", 1, x.read(0, INTS, 0, 1));
        cells(x, 0, INTS, 5, 0);
        due.is("minute 0", 1, x.read(0, INTS, 0, 1));
        due.is("boat(5, 2)", 0, x.boat(5, 2));
    }

    @Says(promise = 37, value = "one behind another as by alter(): how many came")
    static void readOneBehindAnother() {
        LockTurns x = Sentences.boats(2);
        cells(x, 0, BYTES, 0, 10, 1, 20, 0, 30, 1, 40);
        due.is("read of 4", 4, x.read(0, BYTES, 0, 4));
        due.is("the later one", 30, x.boat(0, 2));
        due.is("the later one", 40, x.boat(1, 2));
        due.is("read of 3", 3, x.read(0, BYTES, 0, 3));
        due.is("boat(1, 2)", 20, x.boat(1, 2));
        due.is("read of 1", 1, x.read(0, BYTES, 0, 1));
        due.is("boat(0, 2)", 10, x.boat(0, 2));
        due.is("read of none", 0, x.read(0, BYTES, 4, 0));
        due.is("boat(0, 2)", 10, x.boat(0, 2));
    }

    @Says(promise = 37, value = "What the machine refuses: those that were whole ahead come "
            + "(its FAULT is asked by torn()).")
    static void readTornBehindSomeThatWereWhole() {
        LockTurns x = Sentences.boats(2);
        cells(x, 0, BYTES, 0, 10, 1, 20, 9);
        due.is("half a pair, of no boat", 2, x.read(0, BYTES, 0, 3));
        torn(x, "half a pair", INDEX);
        due.is("boat(0, 2)", 10, x.boat(0, 2));
        due.is("boat(1, 2)", 20, x.boat(1, 2));
        cells(x, 0, BYTES, 0, 11, 1, 21);
        due.is("no pair", 2, x.read(0, BYTES, 0, 20));
        torn(x, "no pair", INDEX);
        due.is("boat(0, 2)", 11, x.boat(0, 2));
        due.is("boat(1, 2)", 21, x.boat(1, 2));
    }

    @Says(promise = 37, value = "-20 less i: the i-th, whole, is refused by alter(): then none came; the first met.")
    static void readRefusedFromTheFirstToTheLast() {
        for (int i = 0; i < 20; i++) {
            LockTurns x = Sentences.boats(2);
            x.sheet(0, INTS, CELLS);
            for (int j = 0; j < 20; j++) {
                x.lay(0, 2 * j, j % 2);
                x.lay(0, 2 * j + 1, 60 + j);
            }
            x.lay(0, 2 * i, 2);
            due.is("no such boat at " + i, -20 - i, x.read(0, INTS, 0, 20));
            due.is("none came", 0, x.boat(0, 2));
            due.is("none came", 0, x.boat(1, 2));
            due.is("those ahead", i, x.read(0, INTS, 0, i));
            x.alter(0, 2, 0);
            x.alter(1, 2, 0);
            x.lay(0, 2 * i, 0);
            x.lay(0, 2 * i + 1, 100);
            due.is("no such minute at " + i, -20 - i, x.read(0, INTS, 0, 20));
            due.is("none came", 0, x.boat(0, 2));
            due.is("none came", 0, x.boat(1, 2));
            x.lay(0, 39, -1);
            due.is("the first met", -20 - i, x.read(0, INTS, 0, 20));
        }
    }

    @Says(promise = 37, value = "the first met")
    static void readRefusedAheadOfTorn() {
        LockTurns x = Sentences.boats(1);
        cells(x, 0, BYTES, 0, 10, 1, 20, 0);
        due.is("refused ahead of the end of the row", -21, x.read(0, BYTES, 0, 20));
        torn(x, "it did not come to an end", 0);
        due.is("boat(0, 2)", 0, x.boat(0, 2));
        due.is("torn ahead of a boat that is not whole", 0, x.read(0, BYTES, 4, 20));
        torn(x, "half a pair", INDEX);
        due.is("another lane ahead of all", 0, x.read(0, SHORTS, 2, 1));
        torn(x, "another lane", CAST);
    }

    // ---- torn

    @Says("A FAULT is what the machine finds: 1 NULL (nothing), 2 INDEX, 3 CAST (another lane), 4 SIZE (below 0).")
    static void tornByEachFault() {
        for (int k = 0; k < 4; k++) {
            for (int lane = 0; lane < 3; lane++) {
                LockTurns x = Sentences.boats(1);
                for (int f : new int[] {MIN, -1, 0, 1, MAX}) {
                    due.is("nothing", 0, x.read(k, lane, f, 1));
                    torn(x, "nothing is of no lane, has no cell", NULL);
                }
                x.sheet(k, lane, 2);
                due.is("its lane", 1, x.read(k, lane, 0, 1));
                torn(x, "its lane", 0);
                due.is("beyond", 0, x.read(k, lane, 2, 1));
                torn(x, "beyond", INDEX);
                for (int other = 0; other < 3; other++) {
                    if (other != lane) {
                        for (int f : new int[] {MIN, -1, 0, 1, 2, MAX}) {
                            due.is("another lane", 0, x.read(k, other, f, 1));
                            torn(x, "another lane ahead of the cell", CAST);
                        }
                    }
                }
                due.is("no size", -14, x.sheet(k, lane, -1));
                torn(x, "a size is not read", CAST);
            }
        }
    }

    @Says(promise = 38, value = "The FAULT of the latest read() that came to an end; 0.")
    static void tornOfTheLatestThatCameToAnEnd() {
        LockTurns x = Sentences.boats(1);
        torn(x, "before any", 0);
        due.is("nothing", 0, x.read(0, BYTES, 0, 1));
        torn(x, "nothing", NULL);
        torn(x, "again", NULL);
        due.is("BAD", BAD, x.read(4, BYTES, 0, 1));
        due.is("BAD", BAD, x.read(0, 3, 0, 1));
        due.is("BAD", BAD, x.read(0, BYTES, 0, 21));
        due.is("BAD", BAD, x.read(0, BYTES, 0, -1));
        torn(x, "BAD came to no end", NULL);
        cells(x, 0, BYTES, 1, 5);
        due.is("refused by alter()", -20, x.read(0, BYTES, 0, 1));
        torn(x, "refused came to no end", NULL);
        due.is("beyond", -12, x.lay(0, 2, 0));
        due.is("no size", -14, x.sheet(0, BYTES, -1));
        torn(x, "of read() alone", NULL);
        due.is("half a pair", 0, x.read(0, BYTES, 1, 1));
        torn(x, "half a pair", INDEX);
        due.text(x, "above mail 0 1 0;", 1);
        torn(x, "a text does not change it", INDEX);
        due.is("none", 0, x.read(0, INTS, 0, 0));
        torn(x, "none", 0);
        x.keep(0);
        due.is("another lane", 0, x.read(0, INTS, 0, 1));
        x.back(0);
        torn(x, "an image does not have it", CAST);
        cells(x, 0, BYTES, 0, 5);
        due.is("whole", 1, x.read(0, BYTES, 0, 1));
        torn(x, "whole", 0);
    }

    // ---- count

    @Says(promise = 39, value = "0 BOATS from above, 1 SEEN, 2 IMAGES, 3 bytes on THE TAPE, "
            + "4 CELLS of SHEET 0 (NONE: nothing), 5 who LIE. BAD.")
    static void countBounds() {
        LockTurns x = new LockTurns();
        int[] want = {BAD, 0, 0, 0, 0, NONE, 0, BAD};
        for (int what = -1; what <= 6; what++) {
            due.is("count(" + what + ")", want[what + 1], x.count(what));
        }
        for (int far : Sentences.FAR) {
            due.is("count(" + far + ")", BAD, x.count(far));
        }
    }

    @Says(promise = 39, value = "0 BOATS from above")
    static void countFromAbove() {
        for (int n = 0; n <= 6; n++) {
            LockTurns x = Sentences.boats(n);
            due.is("all", n, x.count(0));
            for (int b = 0; b < n; b++) {
                x.cross(b);
                due.is("count(0)", n - 1 - b, x.count(0));
            }
        }
    }

    @Says(promise = 39, value = "1 SEEN, 2 IMAGES, 3 bytes on THE TAPE")
    static void countUpToFull() {
        LockTurns x = Sentences.boats(1);
        for (int n = 0; n <= 7; n++) {
            due.is("count(1)", Math.min(n, 6), x.count(1));
            x.see(0, 0);
        }
        for (int n = 0; n <= 161; n++) {
            due.is("count(3)", Math.min(n, 160), x.count(3));
            x.feed(0);
        }
        due.is("count(2)", 0, x.count(2));
        x.keep(1);
        due.is("count(2)", 1, x.count(2));
        x.keep(0);
        due.is("count(2)", 2, x.count(2));
        x.back(1);
        due.is("count(2)", 2, x.count(2));
    }

    @Says(promise = 39, value = "4 CELLS of SHEET 0 (NONE: nothing)")
    static void countCells() {
        LockTurns x = new LockTurns();
        for (int k = 1; k < 4; k++) {
            x.sheet(k, BYTES, 7);
            due.is("sheet 0 is nothing", NONE, x.count(4));
        }
        for (int n = 0; n <= CELLS; n++) {
            x.sheet(0, n % 3, n);
            due.is("count(4)", n, x.count(4));
        }
        x.sheet(0, BYTES, 41);
        due.is("count(4)", CELLS, x.count(4));
    }

    @Says(promise = 39, value = "5 who LIE")
    static void countLiars() {
        for (int n = 0; n <= 6; n++) {
            LockTurns x = Sentences.boats(n);
            due.is("none", 0, x.count(5));
            for (int b = n - 1; b >= 0; b--) {
                x.lie(b, true);
                due.is("count(5)", n - b, x.count(5));
            }
        }
    }
}
