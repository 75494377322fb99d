/** Each sentence of promises 8 to 11 that names a boundary, held by a test of its own. */
public final class ChangeBoundsTest {
    private static final int BAD = LockTurns.BAD;
    private static final Due due = new Due();

    public static void main(String[] args) {
        Sentences.run(ChangeBoundsTest.class, due, 8, 11);
    }

    private static void setBounds(int what, int least, int most, int first) {
        LockTurns x = new LockTurns();
        int is = first;
        due.is("set below", BAD, x.set(what, least - 1));
        due.is("set above", BAD, x.set(what, most + 1));
        for (int far : Sentences.FAR) {
            due.is("set(" + what + ", " + far + ")", BAD, x.set(what, far));
            due.is("by its lowest bits", BAD, x.set(what, far + most));
        }
        due.is("it stays", first, x.rule(what));
        for (int v = least; v <= most; v++) {
            due.is("set(" + what + ", " + v + ")", is, x.set(what, v));
            due.is("rule(" + what + ")", v, x.rule(what));
            is = v;
        }
        due.is("set below", BAD, x.set(what, least - 1));
        due.is("set above", BAD, x.set(what, most + 1));
        due.is("the most stays", most, x.rule(what));
        int[] rules = {5, 2, 0, 0, 0, 0, 0, 0};
        for (int other = 0; other < 8; other++) {
            due.is("rule(" + other + ")", other == what ? most : rules[other], x.rule(other));
        }
    }

    @Says(promise = 8, value = "PASS, TURN, READY, LAW, POST, HAND (what 0 to 5) becomes v: what it was. BAD.")
    static void setPass() {
        setBounds(0, 1, 9, 5);
    }

    @Says("TURN (0 to 9; 2)")
    static void setTurn() {
        setBounds(1, 0, 9, 2);
    }

    @Says("READY (for 0 above, 1 below; 0)")
    static void setReady() {
        setBounds(2, 0, 1, 0);
    }

    @Says("LAW (0 gate, 1 ready, 2 twos, 3 cargo, 4 queue; 0)")
    static void setLaw() {
        setBounds(3, 0, 4, 0);
    }

    @Says("POST (0 to 9 minutes out; 0)")
    static void setPost() {
        setBounds(4, 0, 9, 0);
    }

    @Says("HAND (0, 1: whether a hand on the beam counts; 0)")
    static void setHand() {
        setBounds(5, 0, 1, 0);
    }

    @Says(promise = 8, value = "PASS, TURN, READY, LAW, POST, HAND (what 0 to 5) becomes v: what it was. BAD.")
    static void setNothingElse() {
        LockTurns x = Sentences.boats(2);
        for (int v = 0; v <= 2; v++) {
            due.is("set(-1, " + v + ")", BAD, x.set(-1, v));
            due.is("set(6, " + v + ")", BAD, x.set(6, v));
            due.is("set(7, " + v + ")", BAD, x.set(7, v));
            for (int far : Sentences.FAR) {
                due.is("set(" + far + ", " + v + ")", BAD, x.set(far, v));
            }
        }
        int[] rules = {5, 2, 0, 0, 0, 0, 2, 0};
        for (int what = 0; what < 8; what++) {
            due.is("rule(" + what + ")", rules[what], x.rule(what));
        }
    }

    private static void alterBounds(int what, int most) {
        LockTurns x = Due.told("above fish 11 2 3;below beer 22 3 4;");
        int[] first = {1, 2, 22, 3, 4};
        due.is("alter below", BAD, x.alter(1, what, -1));
        due.is("alter above", BAD, x.alter(1, what, most + 1));
        for (int far : Sentences.FAR) {
            due.is("alter(1, " + what + ", " + far + ")", BAD, x.alter(1, what, far));
        }
        due.is("it stays", first[what], x.boat(1, what));
        int is = first[what];
        for (int v = 0; v <= most; v++) {
            due.is("alter(1, " + what + ", " + v + ")", is, x.alter(1, what, v));
            is = v;
        }
        due.is("alter above", BAD, x.alter(1, what, most + 1));
        due.is("alter below", BAD, x.alter(1, what, -1));
        int[] other = {0, 1, 11, 2, 3};
        for (int i = 0; i < 5; i++) {
            due.is("boat(1, " + i + ")", i == what ? most : first[i], x.boat(1, i));
            due.is("boat(0, " + i + ")", other[i], x.boat(0, i));
        }
    }

    @Says(promise = 9, value = "CARGO, ARRIVES, WORTH, BOY (what 1 to 4) of a BOAT becomes v: what it was. BAD.")
    static void alterCargo() {
        alterBounds(1, 3);
    }

    @Says("it ARRIVES (0 to 99)")
    static void alterArrives() {
        alterBounds(2, 99);
    }

    @Says("of a WORTH (0 to 9: what a minute costs it)")
    static void alterWorth() {
        alterBounds(3, 9);
    }

    @Says("a BOY (0 to 9 minutes ahead of it)")
    static void alterBoy() {
        alterBounds(4, 9);
    }

    @Says(promise = 9, value = "CARGO, ARRIVES, WORTH, BOY (what 1 to 4) of a BOAT becomes v: what it was. BAD.")
    static void alterNothingElse() {
        LockTurns x = Due.told("below fish 11 2 3;");
        for (int v = 0; v <= 1; v++) {
            due.is("alter(0, -1, " + v + ")", BAD, x.alter(0, -1, v));
            due.is("alter(0, 0, " + v + ")", BAD, x.alter(0, 0, v));
            due.is("alter(0, 5, " + v + ")", BAD, x.alter(0, 5, v));
            due.is("alter(0, 6, " + v + ")", BAD, x.alter(0, 6, v));
            for (int far : Sentences.FAR) {
                due.is("alter(0, " + far + ", " + v + ")", BAD, x.alter(0, far, v));
            }
        }
        int[] boat = {1, 1, 11, 2, 3, 0, 11};
        for (int what = 0; what < 7; what++) {
            due.is("boat(0, " + what + ")", boat[what], x.boat(0, what));
        }
    }

    @Says("BAD -1 (a number is not as told, there is no such BOAT, LAW, IMAGE, SHEET)")
    static void alterOfNoneToSixBoats() {
        for (int n = 0; n <= 6; n++) {
            LockTurns x = Sentences.boats(n);
            due.is("alter(-1, 2, 7)", BAD, x.alter(-1, 2, 7));
            due.is("alter(" + n + ", 2, 7)", BAD, x.alter(n, 2, 7));
            for (int far : Sentences.FAR) {
                due.is("alter(" + far + ", 2, 7)", BAD, x.alter(far, 2, 7));
            }
            for (int b = 0; b < n; b++) {
                due.is("alter(" + b + ", 2, 7)", 0, x.alter(b, 2, 7));
                due.is("boat(" + b + ", 2)", 7, x.boat(b, 2));
            }
        }
    }

    @Says(promise = 10, value = "A BOAT LIES, or not: whether it did. BAD.")
    static void lieOfNoneToSixBoats() {
        for (int n = 0; n <= 6; n++) {
            LockTurns x = Sentences.boats(n);
            for (boolean is : new boolean[] {true, false}) {
                due.is("lie(-1, " + is + ")", BAD, x.lie(-1, is));
                due.is("lie(" + n + ", " + is + ")", BAD, x.lie(n, is));
                for (int far : Sentences.FAR) {
                    due.is("lie(" + far + ", " + is + ")", BAD, x.lie(far, is));
                }
            }
            due.is("none lies", 0, x.rule(7));
            for (int b = 0; b < n; b++) {
                due.is("lie(" + b + ", true)", 0, x.lie(b, true));
                due.is("boat(" + b + ", 5)", 1, x.boat(b, 5));
            }
            due.is("lie(" + n + ", false)", BAD, x.lie(n, false));
            due.is("all lie", (1 << n) - 1, x.rule(7));
            for (int b = 0; b < n; b++) {
                due.is("lie(" + b + ", false)", 1, x.lie(b, false));
                due.is("boat(" + b + ", 5)", 0, x.boat(b, 5));
            }
            due.is("none lies", 0, x.rule(7));
        }
    }

    @Says(promise = 10, value = "A BOAT LIES, or not: whether it did. BAD.")
    static void lieTheSameTwice() {
        LockTurns x = Sentences.boats(6);
        due.is("lie(5, false)", 0, x.lie(5, false));
        due.is("lie(5, false)", 0, x.lie(5, false));
        due.is("lie(5, true)", 0, x.lie(5, true));
        due.is("lie(5, true)", 1, x.lie(5, true));
        due.is("rule(7)", 32, x.rule(7));
        due.is("lie(5, false)", 1, x.lie(5, false));
        due.is("rule(7)", 0, x.rule(7));
    }

    @Says(promise = 11, value = "A BOAT comes from the other SIDE: from which it came. BAD.")
    static void crossOfNoneToSixBoats() {
        for (int n = 0; n <= 6; n++) {
            LockTurns x = Sentences.boats(n);
            due.is("cross(-1)", BAD, x.cross(-1));
            due.is("cross(" + n + ")", BAD, x.cross(n));
            for (int far : Sentences.FAR) {
                due.is("cross(" + far + ")", BAD, x.cross(far));
            }
            due.is("all from above", n, x.count(0));
            for (int b = 0; b < n; b++) {
                due.is("cross(" + b + ")", 0, x.cross(b));
                due.is("boat(" + b + ", 0)", 1, x.boat(b, 0));
                due.is("those from above", n - 1 - b, x.count(0));
            }
            for (int b = 0; b < n; b++) {
                due.is("cross(" + b + ")", 1, x.cross(b));
                due.is("boat(" + b + ", 0)", 0, x.boat(b, 0));
            }
        }
    }
}
