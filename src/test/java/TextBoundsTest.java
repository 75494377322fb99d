/** Each sentence of the terms and of promises 1 to 7 that names a boundary, held by a test of its own. */
public final class TextBoundsTest {
    private static final int BAD = LockTurns.BAD, STATE = LockTurns.STATE, FULL = LockTurns.FULL,
            NONE = LockTurns.NONE;
    private static final int MIN = Integer.MIN_VALUE;
    private static final int TAPE = 160;
    private static final String SIX = "above mail0 0 0;below fish1 1 1;above beer2 2 2;below coal3 3 3;"
            + "above mail4 4 4;below fish5 5 5;";
    private static final String LIARS = "liar0;liar1;liar2;liar3;liar4;liar5;";
    private static final Due due = new Due();

    public static void main(String[] args) {
        Sentences.run(TextBoundsTest.class, due, 1, 7);
    }

    private static LockTurns filled(int bytes) {
        LockTurns x = new LockTurns();
        Due.feed(x, " ".repeat(bytes));
        return x;
    }

    private static void rules(LockTurns x, int... want) {
        for (int what = 0; what < want.length; what++) {
            due.is("rule(" + what + ")", want[what], x.rule(what));
        }
    }

    // ---- a new object

    @Says(promise = 1, value = "No BOATS; SHEETS of nothing.")
    static void aNewOneHasNoBoats() {
        LockTurns x = new LockTurns();
        due.is("rule(6)", 0, x.rule(6));
        due.is("rule(7)", 0, x.rule(7));
        due.is("boat(0, 0)", BAD, x.boat(0, 0));
        due.is("alter(0, 1, 0)", BAD, x.alter(0, 1, 0));
        due.is("lie(0, true)", BAD, x.lie(0, true));
        due.is("cross(0)", BAD, x.cross(0));
        due.is("passes(0)", BAD, x.passes(0));
        due.is("count(0)", 0, x.count(0));
        due.is("count(5)", 0, x.count(5));
    }

    @Says(promise = 1, value = "No BOATS; SHEETS of nothing.")
    static void aNewOneHasSheetsOfNothing() {
        for (int k = 0; k < 4; k++) {
            LockTurns x = new LockTurns();
            due.is("lay(" + k + ", 0, 0)", -11, x.lay(k, 0, 0));
            due.is("read(" + k + ", 0, 0, 1)", 0, x.read(k, 0, 0, 1));
            due.is("torn()", 1, x.torn());
        }
        due.is("count(4)", NONE, new LockTurns().count(4));
    }

    @Says("PASS (1 to 9 minutes; 5 at first), TURN (0 to 9; 2), READY (for 0 above, 1 below; 0). "
            + "LAW (0 gate, 1 ready, 2 twos, 3 cargo, 4 queue; 0). POST (0 to 9 minutes out; 0). "
            + "HAND (0, 1: whether a hand on the beam counts; 0).")
    static void rulesAtFirst() {
        rules(new LockTurns(), 5, 2, 0, 0, 0, 0, 0, 0);
    }

    @Says(promise = 1, value = "No BOATS; SHEETS of nothing.")
    static void aNewOneHasNothingElse() {
        LockTurns x = new LockTurns();
        due.is("fault()", 0, x.fault());
        due.is("torn()", 0, x.torn());
        due.is("seen", 0, x.count(1));
        due.is("images", 0, x.count(2));
        due.is("bytes", 0, x.count(3));
        due.is("back(0)", STATE, x.back(0));
        due.is("back(1)", STATE, x.back(1));
    }

    @Says("An object is used for at most 512 calls after it has been made; what later calls answer is free.")
    static void theLastOfItsCalls() {
        LockTurns x = new LockTurns();
        int calls = 0;
        for (; calls < 510; calls++) {
            due.is("feed, FULL at last", calls < TAPE ? calls + 1 : FULL, x.feed(' '));
        }
        due.is("call 511", 0, x.text());
        due.is("call 512", 0, x.count(3));
    }

    // ---- the tape

    @Says(promise = 2, value = "A byte (0 to 127) comes behind THE TAPE: how many it has. BAD")
    static void feedTakesBytes() {
        LockTurns x = new LockTurns();
        due.is("feed(-1)", BAD, x.feed(-1));
        due.is("feed(128)", BAD, x.feed(128));
        for (int far : Sentences.FAR) {
            due.is("feed(" + far + ")", BAD, x.feed(far));
        }
        due.is("a letter by its lowest bits", BAD, x.feed(256 + 'a'));
        due.is("a letter by its lowest bits", BAD, x.feed(MIN + 'a'));
        due.is("none came", 0, x.count(3));
        for (int c = 0; c <= 127; c++) {
            due.is("feed(" + c + ")", c + 1, x.feed(c));
        }
    }

    @Says(promise = 2, value = "FULL: more than 160.")
    static void feedUpToFull() {
        LockTurns x = filled(TAPE - 2);
        due.is("the 159th", 159, x.feed(' '));
        due.is("the 160th", 160, x.feed(' '));
        due.is("the 161st", FULL, x.feed(' '));
        due.is("the 161st again", FULL, x.feed(0));
        due.is("the 161st again", FULL, x.feed(127));
        due.is("count(3)", 160, x.count(3));
        due.is("end(159)", 160, x.end(159));
        due.is("the 160th again", 160, x.feed(' '));
        due.is("FULL again", FULL, x.feed(' '));
    }

    @Says("the first that fits")
    static void feedIsBadAheadOfFull() {
        LockTurns x = filled(TAPE);
        due.is("feed(-1)", BAD, x.feed(-1));
        due.is("feed(128)", BAD, x.feed(128));
        due.is("feed(127)", FULL, x.feed(127));
    }

    @Says("THE TAPE has 160 bytes, places from 0.")
    static void allOfTheTapeIsRead() {
        due.taken(" ".repeat(TAPE - 5) + "hand;", 1);
        due.taken("hand;" + " ".repeat(TAPE - 5), 1);
        due.faulty(" ".repeat(TAPE - 1) + "!", 1, TAPE - 1);
        due.faulty(" ".repeat(TAPE - 1) + ";", 2, TAPE - 1);
        due.faulty(" ".repeat(TAPE - 4) + "hand", 2, TAPE);
        due.faulty("!" + " ".repeat(TAPE - 1), 1, 0);
    }

    @Says(promise = 2, value = "FULL: more than 160.")
    static void whatIsRefusedIsNotOnTheTape() {
        LockTurns x = new LockTurns();
        Due.feed(x, " ".repeat(TAPE - 5) + "hand;");
        due.is("feed('!')", FULL, x.feed('!'));
        due.is("feed(161)", BAD, x.feed(161));
        due.is("text()", 1, x.text());
        due.is("the tape is empty: it takes one", 1, x.feed('!'));
    }

    @Says(promise = 3, value = "THE TAPE keeps its first n bytes: how many it had. BAD.")
    static void endOfAnEmptyTape() {
        LockTurns x = new LockTurns();
        due.is("end(0)", 0, x.end(0));
        due.is("end(1)", BAD, x.end(1));
        due.is("end(-1)", BAD, x.end(-1));
        due.is("end(160)", BAD, x.end(160));
        for (int far : Sentences.FAR) {
            due.is("end(" + far + ")", BAD, x.end(far));
        }
        due.is("count(3)", 0, x.count(3));
    }

    @Says(promise = 3, value = "THE TAPE keeps its first n bytes: how many it had. BAD.")
    static void endOfSomeBytes() {
        LockTurns x = filled(3);
        due.is("end(4)", BAD, x.end(4));
        due.is("end(-1)", BAD, x.end(-1));
        due.is("count(3)", 3, x.count(3));
        due.is("end(3)", 3, x.end(3));
        due.is("end(2)", 3, x.end(2));
        due.is("end(3)", BAD, x.end(3));
        due.is("end(0)", 2, x.end(0));
        due.is("end(0)", 0, x.end(0));
    }

    @Says(promise = 3, value = "THE TAPE keeps its first n bytes: how many it had. BAD.")
    static void endOfAFullTape() {
        LockTurns x = filled(TAPE);
        due.is("end(161)", BAD, x.end(161));
        due.is("end(160)", 160, x.end(160));
        due.is("still full", FULL, x.feed(' '));
        due.is("end(0)", 160, x.end(0));
        due.is("feed", 1, x.feed(' '));
    }

    @Says(promise = 3, value = "THE TAPE keeps its first n bytes: how many it had. BAD.")
    static void endKeepsTheFirstOnes() {
        LockTurns x = new LockTurns();
        Due.feed(x, "post 7;post 8;");
        due.is("end(7)", 14, x.end(7));
        Due.feed(x, "hand;");
        due.is("text()", 2, x.text());
        rules(x, 5, 2, 0, 0, 7, 1, 0, 0);
        Due.feed(x, "post 7;");
        due.is("end(5)", 7, x.end(5));
        Due.feed(x, "9;");
        due.is("text()", 1, x.text());
        due.is("rule(4)", 9, x.rule(4));
    }

    // ---- the text that is taken

    @Says(promise = 4, value = "THE TAPE (empty then) tells all: how many lines")
    static void textOfNoLines() {
        for (int blanks : new int[] {0, 1, TAPE}) {
            LockTurns x = Due.told("lock 9 9 1;law queue;post 9;hand;above coal 1 2 3;liar 0;");
            due.text(x, " ".repeat(blanks), 0);
            due.is("fault()", 0, x.fault());
            rules(x, 5, 2, 0, 0, 0, 0, 0, 0);
            due.is("the tape is empty", 0, x.count(3));
            due.is("no such boat", BAD, x.boat(0, 0));
        }
    }

    @Says(promise = 4, value = "THE TAPE (empty then) tells all: how many lines")
    static void textOfTheMostLines() {
        String text = SIX + LIARS + "lock9 9 1;law queue;hand;";
        LockTurns x = due.taken(text + " ".repeat(TAPE - text.length()), 15);
        rules(x, 9, 9, 1, 4, 0, 1, 6, 63);
        due.is("the tape is empty", 0, x.count(3));
        int[][] want = {{0, 0}, {1, 1}, {0, 2}, {1, 3}, {0, 0}, {1, 1}};
        for (int b = 0; b < 6; b++) {
            int[] boat = {want[b][0], want[b][1], b, b, b, 1, 0};
            for (int what = 0; what < boat.length; what++) {
                due.is("boat(" + b + ", " + what + ")", boat[what], x.boat(b, what));
            }
        }
    }

    @Says("A text that is taken tells all, in place of what there was; nothing is SEEN; IMAGES are gone.")
    static void textInPlaceOfAll() {
        for (String text : new String[] {"", "post 3;", SIX}) {
            LockTurns x = Due.told("lock 9 9 1;law queue;post 9;hand;above coal 1 2 3;above coal 9 9 9;liar 1;");
            for (int n = 1; n <= 6; n++) {
                due.is("see", n, x.see(0, 1));
            }
            x.keep(0);
            x.keep(1);
            due.text(x, text, text.equals(SIX) ? 6 : text.isEmpty() ? 0 : 1);
            rules(x, 5, 2, 0, 0, text.equals("post 3;") ? 3 : 0, 0, text.equals(SIX) ? 6 : 0, 0);
            due.is("seen", 0, x.count(1));
            due.is("images", 0, x.count(2));
            due.is("back(0)", STATE, x.back(0));
            due.is("back(1)", STATE, x.back(1));
            due.is("keep(0)", 0, x.keep(0));
        }
    }

    @Says("it LIES or not (not)")
    static void noneLiesAtFirst() {
        LockTurns x = due.taken(SIX, 6);
        for (int b = 0; b < 6; b++) {
            due.is("boat(" + b + ", 5)", 0, x.boat(b, 5));
        }
        due.is("rule(7)", 0, x.rule(7));
    }

    // ---- tokens

    @Says("TOKENS, each as long as may be, blanks (32) between: NAMES (a .. z), NUMBERS (1 or 2 figures), one ; .")
    static void eachByteAlone() {
        for (int c = 0; c <= 127; c++) {
            boolean token = c >= 'a' && c <= 'z' || c >= '0' && c <= '9' || c == ';';
            String text = String.valueOf((char) c);
            if (c == ' ') {
                due.taken(text, 0);
            } else {
                due.faulty(text, token ? 2 : 1, 0);
            }
        }
    }

    @Says("TOKENS, each as long as may be, blanks (32) between: NAMES (a .. z), NUMBERS (1 or 2 figures), one ; .")
    static void eachByteBehindATokenOfALine() {
        for (int c = 0; c <= 127; c++) {
            String hand = "hand" + (char) c + ";";
            String post = "post 1" + (char) c + ";";
            if (c == ' ') {
                due.taken(hand, 1);
                due.taken(post, 1);
            } else if (c == ';') {
                due.faulty(hand, 2, 5);
                due.faulty(post, 2, 7);
            } else if (c >= 'a' && c <= 'z') {
                due.faulty(hand, 2, 0);
                due.faulty(post, 2, 6);
            } else if (c >= '0' && c <= '9') {
                due.faulty(hand, 2, 4);
                due.faulty(post, 3, 5);
            } else {
                due.faulty(hand, 1, 4);
                due.faulty(post, 1, 6);
            }
        }
    }

    @Says("TOKENS, each as long as may be, blanks (32) between")
    static void blanksBetween() {
        due.taken("lock5 2 0;", 1);
        due.taken("lock 5 2 0;", 1);
        due.taken("  lock  5  2  0  ;  ", 1);
        due.faulty("lock520;", 1, 4);
        due.faulty("lock 52 0;", 3, 5);
        due.faulty("abovemail 1 1 1;", 2, 0);
        due.faulty("ha nd;", 2, 0);
        due.faulty("lock 5 2 0 ; ;", 2, 13);
        due.taken("hand;law  gate;", 2);
    }

    // ---- faults 1 and 2

    @Says("1 no TOKEN, a NUMBER that is too long (its first byte).")
    static void numbersOfOneTwoThreeFigures() {
        due.taken("post 9;", 1);
        due.taken("post 09;", 1);
        due.faulty("post 009;", 1, 5);
        due.faulty("post 0009;", 1, 5);
        due.taken("above mail 9 0 0;", 1);
        due.taken("above mail 99 0 0;", 1);
        due.faulty("above mail 100 0 0;", 1, 11);
        due.faulty("above mail 099 0 0;", 1, 11);
        due.faulty("post " + "0".repeat(155), 1, 5);
        due.faulty("1".repeat(160), 1, 0);
        due.faulty("11", 2, 0);
        due.faulty("111", 1, 0);
    }

    @Says("1 no TOKEN, a NUMBER that is too long (its first byte).")
    static void tooLongWhereNoNumberStands() {
        due.faulty("hand 123;", 1, 5);
        due.faulty("hand 12;", 2, 5);
        due.faulty("law 123;", 1, 4);
        due.faulty("above 123 1 1 1;", 1, 6);
    }

    @Says("2 a TOKEN that can not stand there (a NAME that begins no line, is no K, no L; or the end: the length).")
    static void namesThatBeginALine() {
        String[] lines = {"lock 1 0 0;", "above mail 0 0 0;", "below mail 0 0 0;", "law gate;", "post 0;", "hand;",
            "above mail 0 0 0;liar 0;"};
        for (String line : lines) {
            due.taken(line, line.endsWith("liar 0;") ? 2 : 1);
        }
        for (String name : new String[] {"mail", "gate", "a", "z", "loc", "locks", "abov", "abovee", "belo", "beloww",
            "la", "laws", "pos", "posts", "han", "hands", "lia", "liars", "l", "klock", "lick"}) {
            due.faulty(name + " 1 0 0;", 2, 0);
            due.faulty("hand; " + name + " 1 0 0;", 2, 6);
        }
    }

    @Says("2 a TOKEN that can not stand there (a NAME that begins no line, is no K, no L; or the end: the length).")
    static void namesOfCargoAndLaw() {
        for (String name : new String[] {"gate", "ready", "twos", "cargo", "queue", "lock", "mai", "mails", "fis",
            "fishy", "bee", "beers", "coa", "coals", "m"}) {
            due.faulty("above " + name + " 1 1 1;", 2, 6);
            due.faulty("below  " + name + " 1 1 1;", 2, 7);
        }
        for (String name : new String[] {"mail", "fish", "beer", "coal", "law", "gat", "gates", "read", "readyy", "two",
            "twoss", "carg", "cargos", "queu", "queues", "q"}) {
            due.faulty("law " + name + ";", 2, 4);
        }
        due.faulty("law 0;", 2, 4);
        due.faulty("law ;", 2, 4);
        due.faulty("above 0 1 1 1;", 2, 6);
        due.faulty("above ;", 2, 6);
    }

    /** Each NAME with its first or its last letter changed, or one letter more or less. */
    @Says("NAMES (a .. z)")
    static void namesAreOfAllTheirLetters() {
        String[] heads = {"", "", "", "", "", "", "", "above ", "below ", "above ", "below ", "law ", "law ", "law ",
            "law ", "law "};
        String[] names = {"lock", "above", "below", "law", "post", "hand", "liar", "mail", "fish", "beer", "coal",
            "gate", "ready", "twos", "cargo", "queue"};
        for (int i = 0; i < names.length; i++) {
            String name = names[i];
            String inner = name.substring(1, name.length() - 1);
            String[] others = {"x" + name.substring(1), name.charAt(0) + inner + "x", name + "x", "x" + name,
                name.substring(1), name.charAt(0) + inner, name + name};
            for (String other : others) {
                due.faulty(heads[i] + other + " 1 1 1;", 2, heads[i].length());
                due.faulty(heads[i] + other + ";", 2, heads[i].length());
            }
        }
    }

    @Says("L: gate | ready | twos | cargo | queue")
    static void eachLawOfAText() {
        String[] laws = {"gate", "ready", "twos", "cargo", "queue"};
        for (int law = 0; law < 5; law++) {
            due.is("rule(3)", law, due.taken("law " + laws[law] + ";", 1).rule(3));
        }
    }

    @Says("K: mail | fish | beer | coal")
    static void eachCargoOfAText() {
        String[] cargos = {"mail", "fish", "beer", "coal"};
        for (int cargo = 0; cargo < 4; cargo++) {
            for (int side = 0; side < 2; side++) {
                LockTurns x = due.taken((side == 0 ? "above " : "below ") + cargos[cargo] + " 1 2 3;", 1);
                due.is("boat(0, 0)", side, x.boat(0, 0));
                due.is("boat(0, 1)", cargo, x.boat(0, 1));
            }
        }
    }

    /** Of each text each beginning: an unfinished NAME is blamed itself, all else at the end. */
    @Says("or the end: the length")
    static void eachBeginning() {
        String text = "lock 1 2 0;above mail 7 8 9;law queue;hand;liar 0;post 1;";
        int lines = 0;
        for (int n = 0; n <= text.length(); n++) {
            String part = text.substring(0, n);
            int from = n;
            while (from > 0 && Character.isLetter(part.charAt(from - 1))) {
                from--;
            }
            boolean unfinished = n > from && n < text.length() && Character.isLetter(text.charAt(n));
            if (n > 0 && part.charAt(n - 1) == ';') {
                lines++;
            }
            if (part.isEmpty() || part.endsWith(";")) {
                due.taken(part, lines);
            } else {
                due.faulty(part, 2, unfinished ? from : n);
                if (!unfinished) {
                    due.faulty(part + "   ", 2, n + 3);
                }
            }
        }
        due.is("lines", 6, lines);
    }

    @Says("2 a TOKEN that can not stand there")
    static void oneTooFewAndOneTooMany() {
        due.faulty("lock 1 2;", 2, 8);
        due.faulty("lock 1 2 0 0;", 2, 11);
        due.faulty("above mail 1 2;", 2, 14);
        due.faulty("above mail 1 2 3 4;", 2, 17);
        due.faulty("above mail mail 1 2 3;", 2, 11);
        due.faulty("law gate gate;", 2, 9);
        due.faulty("law;", 2, 3);
        due.faulty("post;", 2, 4);
        due.faulty("post 1 1;", 2, 7);
        due.faulty("hand 1;", 2, 5);
        due.faulty("hand;;", 2, 5);
        due.faulty("liar;", 2, 4);
        due.faulty("liar 0 1;", 2, 7);
        due.faulty("liar a;", 2, 5);
        due.faulty("post gate;", 2, 5);
        due.faulty("lock 1 a 0;", 2, 7);
    }

    // ---- fault 3: a number out of its bounds

    /** A line with one number changed: the least and the most are taken, one less and one more are not. */
    private static void bounds(String head, String tail, int least, int most, int[] wanted) {
        for (int v = least; v <= most; v++) {
            LockTurns x = due.taken(head + v + tail, 1);
            int got = wanted[0] < 0 ? x.rule(wanted[1]) : x.boat(wanted[0], wanted[1]);
            due.is("told by '" + head + v + tail + "'", v, got);
        }
        if (least > 0) {
            due.faulty(head + (least - 1) + tail, 3, head.length());
            due.faulty(head + "0" + (least - 1) + tail, 3, head.length());
        }
        if (most < 99) {
            due.faulty(head + (most + 1) + tail, 3, head.length());
            due.faulty(head + "99" + tail, 3, head.length());
        } else {
            due.faulty(head + (most + 1) + tail, 1, head.length());
        }
        due.faulty(head + "-1" + tail, 1, head.length());
    }

    @Says("PASS (1 to 9 minutes; 5 at first)")
    static void passOfAText() {
        bounds("lock ", " 2 0;", 1, 9, new int[] {-1, 0});
    }

    @Says("TURN (0 to 9; 2)")
    static void turnOfAText() {
        bounds("lock 5 ", " 0;", 0, 9, new int[] {-1, 1});
    }

    @Says("READY (for 0 above, 1 below; 0)")
    static void readyOfAText() {
        bounds("lock 5 2 ", ";", 0, 1, new int[] {-1, 2});
    }

    @Says("POST (0 to 9 minutes out; 0)")
    static void postOfAText() {
        bounds("post ", ";", 0, 9, new int[] {-1, 4});
    }

    @Says("it ARRIVES (0 to 99)")
    static void arrivesOfAText() {
        bounds("above coal ", " 0 0;", 0, 99, new int[] {0, 2});
    }

    @Says("of a WORTH (0 to 9: what a minute costs it)")
    static void worthOfAText() {
        bounds("below coal 0 ", " 0;", 0, 9, new int[] {0, 3});
    }

    @Says("a BOY (0 to 9 minutes ahead of it)")
    static void boyOfAText() {
        bounds("below coal 0 0 ", ";", 0, 9, new int[] {0, 4});
    }

    @Says("liar: a BOAT (0 to 5) that LIES.")
    static void liarOfAText() {
        for (int b = 0; b <= 5; b++) {
            LockTurns x = due.taken(SIX + "liar " + b + ";", 7);
            due.is("rule(7)", 1 << b, x.rule(7));
        }
        due.faulty(SIX + "liar 6;", 3, SIX.length() + 5);
        due.faulty(SIX + "liar 06;", 3, SIX.length() + 5);
        due.faulty(SIX + "liar 99;", 3, SIX.length() + 5);
    }

    // ---- faults 4, 5, 6

    @Says("4 lock, law, post, hand for the second time (its NAME); a BOAT that is told a liar already (it).")
    static void linesForTheSecondTime() {
        String[] lines = {"lock 5 2 0;", "law gate;", "post 0;", "hand;"};
        for (String line : lines) {
            String name = line.replaceAll("[ ;].*", "");
            due.taken(line, 1);
            due.faulty(line + line, 4, line.length());
            due.faulty(line + "  " + line, 4, line.length() + 2);
            due.faulty(line + name, 4, line.length());
            due.faulty(line + name + "!", 4, line.length());
            due.faulty(line + name + " 999;", 4, line.length());
            for (String other : lines) {
                if (!other.equals(line)) {
                    due.taken(line + other, 2);
                    due.faulty(line + other + line, 4, line.length() + other.length());
                }
            }
        }
        due.taken("above mail 1 1 1;above mail 1 1 1;", 2);
    }

    @Says("a BOAT that is told a liar already (it)")
    static void liarsForTheSecondTime() {
        due.taken(SIX + LIARS, 12);
        for (int b = 0; b <= 5; b++) {
            due.faulty(SIX + LIARS + "liar  " + b + ";", 4, SIX.length() + LIARS.length() + 6);
            due.faulty("liar " + b + ";liar 0" + b, 4, 12);
            due.faulty("liar " + b + ";liar " + (b + 1) % 6 + ";liar " + b + ";", 4, 19);
        }
    }

    @Says("5 the 7th BOAT (its NAME).")
    static void theSeventhBoat() {
        due.is("six are taken", 6, due.taken(SIX, 6).rule(6));
        for (String name : new String[] {"above", "below"}) {
            due.faulty(SIX + name + " mail 1 1 1;", 5, SIX.length());
            due.faulty(SIX + "  " + name, 5, SIX.length() + 2);
            due.faulty(SIX + name + "!", 5, SIX.length());
            due.faulty(SIX + LIARS + name + " x", 5, SIX.length() + LIARS.length());
        }
        due.faulty(SIX + "abov", 2, SIX.length());
    }

    @Says("Behind all (the length): 6 a BOAT that there is not.")
    static void liarsThatThereAreNot() {
        StringBuilder boats = new StringBuilder();
        for (int n = 0; n <= 5; n++) {
            String text = boats + "liar " + n + ";";
            due.faulty(text, 6, text.length());
            due.faulty(text + "  ", 6, text.length() + 2);
            due.faulty("liar " + n + ";" + boats, 6, text.length());
            boats.append("below beer 1 1 1;");
            due.is("the last one that there is", 1 << n, due.taken(boats + "liar " + n + ";", n + 2).rule(7));
            due.is("told ahead", 1 << n, due.taken("liar " + n + ";" + boats, n + 2).rule(7));
        }
    }

    @Says("Behind all (the length): 6 a BOAT that there is not.")
    static void anyOtherFaultIsMetAheadOfSix() {
        due.faulty("liar 5;!", 1, 7);
        due.faulty("liar 5;hand", 2, 11);
        due.faulty("liar 5;post 10;", 3, 12);
        due.faulty("liar 5;liar 5;", 4, 12);
        due.faulty("liar 5;", 6, 7);
        due.faulty("liar 5;" + " ".repeat(153), 6, 160);
    }

    @Says("FAULTS, the first met as it is read (a TOKEN is read when the one before has been taken)")
    static void theFirstFaultMet() {
        due.faulty("post 10!", 3, 5);
        due.faulty("post !10", 1, 5);
        due.faulty("lock 0 10 2;", 3, 5);
        due.faulty("lock 1 10 2;", 3, 7);
        due.faulty("lock 1 1 2;", 3, 9);
        due.faulty("above coals 100 10 10;", 2, 6);
        due.faulty("above coal 100 10 10;", 1, 11);
        due.faulty("above coal 99 10 10;", 3, 14);
        due.faulty("above coal 99 9 10;", 3, 16);
        due.faulty("hand;hand!", 4, 5);
        due.faulty("hand!hand;", 1, 4);
        due.faulty("liar 6;liar 6;", 3, 5);
    }

    // ---- what stays, the fault

    @Says(promise = 4, value = "-10 less the place of its FAULT: that which was told stays.")
    static void whatWasToldStays() {
        String[] faulty = {"post 1;!", "post 1;hand", "post 10;", "post 1;post 1;", SIX + "above", "post 1;liar 0;"};
        for (int fault = 1; fault <= 6; fault++) {
            LockTurns x = Due.told("lock 9 8 1;law twos;post 7;above coal 1 2 3;below fish 4 5 6;liar 1;");
            x.see(1, 0);
            x.keep(1);
            Due.feed(x, faulty[fault - 1]);
            due.is("refused", 1, x.text() <= -10 ? 1 : 0);
            due.is("fault()", fault, x.fault());
            rules(x, 9, 8, 1, 2, 7, 0, 2, 2);
            int[] boat = {1, 1, 4, 5, 6, 1, 0};
            for (int what = 0; what < 7; what++) {
                due.is("boat(1, " + what + ")", boat[what], x.boat(1, what));
            }
            due.is("seen", 1, x.count(1));
            due.is("images", 1, x.count(2));
            due.is("the tape is empty", 0, x.count(3));
            due.is("nothing is left of it", 1, x.feed(' '));
        }
    }

    @Says(promise = 4, value = "-10 less the place of its FAULT")
    static void placesFromFirstToLast() {
        for (int place = 0; place <= 160; place++) {
            LockTurns x = filled(place);
            if (place < 160) {
                x.feed('!');
            } else {
                x.end(156);
                Due.feed(x, "hand");
            }
            due.is("text()", -10 - place, x.text());
            due.is("fault()", place < 160 ? 1 : 2, x.fault());
        }
    }

    @Says(promise = 5, value = "The FAULT of the latest text(); 0.")
    static void faultOfTheLatestText() {
        LockTurns x = new LockTurns();
        due.is("before any text()", 0, x.fault());
        Due.feed(x, "!");
        due.is("before text()", 0, x.fault());
        due.is("text()", -10, x.text());
        due.is("fault()", 1, x.fault());
        due.is("fault() again", 1, x.fault());
        x.feed(-1);
        x.end(9);
        x.feed('h');
        x.end(0);
        x.set(0, 99);
        x.read(0, 0, 0, 1);
        due.is("what other calls refuse is not it", 1, x.fault());
        due.faulty(x, "liar 0;", 6, 7);
        due.text(x, "", 0);
        due.is("of a text that was taken", 0, x.fault());
    }

    // ---- what is asked

    @Says(promise = 6, value = "0 PASS, 1 TURN, 2 READY, 3 LAW, 4 POST, 5 HAND, 6 BOATS, 7 who LIES (bits). BAD.")
    static void ruleBounds() {
        LockTurns x = due.taken("lock 9 8 1;law queue;post 7;hand;below coal 1 1 1;above fish 1 1 1;liar 1;", 7);
        due.is("rule(-1)", BAD, x.rule(-1));
        rules(x, 9, 8, 1, 4, 7, 1, 2, 2);
        due.is("rule(8)", BAD, x.rule(8));
        for (int far : Sentences.FAR) {
            due.is("rule(" + far + ")", BAD, x.rule(far));
        }
    }

    @Says(promise = 6, value = "6 BOATS, 7 who LIES (bits)")
    static void ruleOfNoneToSixBoats() {
        for (int n = 0; n <= 6; n++) {
            LockTurns x = Sentences.boats(n);
            due.is("rule(6)", n, x.rule(6));
            for (int b = 0; b < n; b++) {
                x.lie(b, true);
                due.is("rule(7)", (2 << b) - 1, x.rule(7));
            }
        }
    }

    @Says(promise = 7, value = "Of a BOAT: 0 SIDE, 1 CARGO, 2 ARRIVES, 3 WORTH, 4 BOY, 5 whether it LIES (1, 0), "
            + "6 from when on it COUNTS. BAD.")
    static void boatBounds() {
        for (int n = 0; n <= 6; n++) {
            LockTurns x = Sentences.boats(n);
            for (int what = 0; what <= 6; what++) {
                due.is("boat(-1, " + what + ")", BAD, x.boat(-1, what));
                due.is("boat(" + n + ", " + what + ")", BAD, x.boat(n, what));
                if (n > 0) {
                    due.is("boat(0, " + what + ")", what == 3 ? 1 : 0, x.boat(0, what));
                    due.is("boat(" + (n - 1) + ", " + what + ")", what == 3 ? 1 : 0, x.boat(n - 1, what));
                }
            }
            due.is("boat(0, -1)", BAD, x.boat(0, -1));
            due.is("boat(0, 7)", BAD, x.boat(0, 7));
            for (int far : Sentences.FAR) {
                due.is("boat(" + far + ", 3)", BAD, x.boat(far, 3));
                due.is("boat(0, " + far + ")", BAD, x.boat(0, far));
            }
        }
    }

    @Says(promise = 7, value = "0 SIDE, 1 CARGO, 2 ARRIVES, 3 WORTH, 4 BOY, 5 whether it LIES (1, 0)")
    static void boatOfTheLeastAndTheMost() {
        LockTurns x = due.taken("above mail 0 0 0;below coal 99 9 9;liar 1;", 3);
        int[][] want = {{0, 0, 0, 0, 0, 0, 0}, {1, 3, 99, 9, 9, 1, 99}};
        for (int b = 0; b < 2; b++) {
            for (int what = 0; what < 7; what++) {
                due.is("boat(" + b + ", " + what + ")", want[b][what], x.boat(b, what));
            }
        }
    }
}
