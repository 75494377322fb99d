import java.util.Random;

/** Runs of calls by a seed, on the class and on the model: each answer, and then the whole state. */
public final class ModelTest {
    private static final int RUNS = 2500;
    private static final int CALLS = 60;
    /** Behind so many calls a long text and the whole state still fit into the 512 that the document grants. */
    private static final int CALLS_IN_ALL = 250;
    private static final String[] CARGOS = {"mail", "fish", "beer", "coal"};
    private static final String[] LAWS = {"gate", "ready", "twos", "cargo", "queue"};
    private static final Due due = new Due();

    private final Random random;
    private final LockTurns x = new LockTurns();
    private final Model m = new Model();
    private final String name;
    /** How far apart boats arrive at most: close together laws matter, far apart the lock is idle. */
    private final int spread;
    private int calls;

    private ModelTest(int seed) {
        random = new Random(seed);
        name = "run " + seed + ": ";
        spread = new int[] {6, 15, 40, 100}[random.nextInt(4)];
    }

    public static void main(String[] args) {
        for (int seed = 1; seed <= RUNS; seed++) {
            new ModelTest(seed).run();
        }
        due.end();
    }

    private void run() {
        tell(text(random.nextInt(7)));
        for (int i = 0; i < CALLS && calls < CALLS_IN_ALL; i++) {
            call(random.nextInt(45));
        }
        compareState();
    }

    private int upTo(int n) {
        return random.nextInt(n + 1);
    }

    /** Mostly of the bounds told, sometimes a little or far beyond. */
    private int near(int least, int most) {
        int kind = random.nextInt(40);
        if (kind == 0) {
            return random.nextInt();
        }
        if (kind == 1) {
            return least - 1;
        }
        if (kind == 2) {
            return most + 1;
        }
        return most < least ? least : least + random.nextInt(most - least + 1);
    }

    private int boat() {
        return near(0, m.w.boats().size() - 1);
    }

    private String boatLine() {
        return (random.nextBoolean() ? "above " : "below ") + CARGOS[upTo(3)] + " " + random.nextInt(spread) + " "
                + upTo(9) + " " + upTo(9) + ";";
    }

    private String text(int boats) {
        StringBuilder s = new StringBuilder();
        if (random.nextInt(3) > 0) {
            s.append("lock ").append(1 + upTo(8)).append(' ').append(upTo(9)).append(' ').append(upTo(1)).append(';');
        }
        for (int b = 0; b < boats; b++) {
            s.append(boatLine());
        }
        for (int b = 0; b < boats; b++) {
            if (random.nextInt(5) < 2 && s.length() < 130) {
                s.append("liar ").append(b).append(';');
            }
        }
        if (random.nextInt(4) > 0 && s.length() < 140) {
            s.append("law ").append(LAWS[upTo(4)]).append(';');
        }
        if (random.nextBoolean() && s.length() < 145) {
            s.append("hand;");
        }
        if (random.nextInt(3) == 0 && s.length() < 150) {
            s.append("post ").append(upTo(9)).append(';');
        }
        return s.toString();
    }

    private String spoiled(String text) {
        StringBuilder s = new StringBuilder(text);
        String signs = " ;;09 5azl.A";
        for (int n = upTo(3); n > 0 && s.length() > 0; n--) {
            int at = random.nextInt(s.length());
            char c = signs.charAt(random.nextInt(signs.length()));
            switch (random.nextInt(5)) {
                case 0:
                    s.setCharAt(at, c);
                    break;
                case 1:
                    s.deleteCharAt(at);
                    break;
                case 2:
                    s.insert(at, c);
                    break;
                case 3:
                    s.setLength(at);
                    break;
                default:
                    s.insert(s.indexOf(";") + 1, new String[] {"liar 1;", "hand;", boatLine(), "post 7;", "liar 6;",
                        "law gate;", "lock 1 1 1;"}[random.nextInt(7)]);
            }
        }
        return s.toString();
    }

    private void tell(String text) {
        for (int i = 0; i < text.length(); i++) {
            x.feed(text.charAt(i));
            m.feed(text.charAt(i));
            calls++;
        }
        check("text() of '" + m.tape + "'", m.text(), x.text());
        check("fault()", m.fault(), x.fault());
    }

    private void check(String call, long want, long got) {
        calls++;
        due.is(name + call, want, got);
    }

    private void call(int which) {
        if (which < 9) {
            change(which);
        } else if (which < 16) {
            askDay(which);
        } else if (which < 27) {
            askMore(which);
        } else {
            rows(which);
        }
    }

    private void change(int which) {
        int what = near(0, 5);
        int b = boat();
        int v = near(0, 9);
        switch (which) {
            case 0:
            case 1:
                check("set(" + what + ", " + v + ")", m.set(what, v), x.set(what, v));
                break;
            case 2:
            case 3:
                v = what == 2 ? near(0, Math.min(99, spread)) : v;
                check("alter(" + b + ", " + what + ", " + v + ")", m.alter(b, what, v), x.alter(b, what, v));
                break;
            case 4:
            case 5:
                check("lie(" + b + ")", m.lie(b, v > 4), x.lie(b, v > 4));
                break;
            case 6:
                check("cross(" + b + ")", m.cross(b), x.cross(b));
                break;
            case 7:
                v = near(0, 127);
                check("feed(" + v + ")", m.feed(v), x.feed(v));
                v = near(0, m.tape.length());
                check("end(" + v + ")", m.end(v), x.end(v));
                break;
            default:
                if (random.nextInt(3) == 0) {
                    tell(random.nextBoolean() ? text(upTo(6)) : spoiled(text(upTo(7))));
                } else {
                    tell(spoiled(text(upTo(7))));
                }
        }
    }

    private void askDay(int which) {
        int b = boat();
        int what = near(0, 4);
        switch (which) {
            case 9:
                check("passes(" + b + ")", m.passes(b), x.passes(b));
                break;
            case 10:
                check("through(" + b + ")", m.through(b), x.through(b));
                break;
            case 11:
                check("stood(" + b + ")", m.stood(b), x.stood(b));
                break;
            case 12:
                check("day(" + what + ")", m.day(what), x.day(what));
                break;
            case 13:
                int law = near(0, 4);
                check("table(" + law + ", " + what + ")", m.table(law, what), x.table(law, what));
                break;
            case 14:
                check("best(" + what + ")", m.best(what), x.best(what));
                break;
            default:
                int i = random.nextInt(3) == 0 ? near(0, 0) : near(10, 9 + m.w.boats().size());
                check("order(" + i + ")", m.order(i), x.order(i));
        }
    }

    private void askMore(int which) {
        int b = boat();
        int c = boat();
        int v = near(0, 10);
        int two = near(0, 1);
        switch (which) {
            case 16:
                check("firsts(" + b + ")", m.firsts(b), x.firsts(b));
                break;
            case 17:
                check("gain(" + b + ")", m.gain(b), x.gain(b));
                break;
            case 18:
                check("calm()", m.calm(), x.calm());
                break;
            case 19:
                check("rests(" + two + ")", m.rests(two), x.rests(two));
                break;
            case 20:
                check("boy(" + b + ", " + c + ")", m.boy(b, c), x.boy(b, c));
                break;
            case 21:
                check("post(" + two + ")", m.post(two), x.post(two));
                break;
            case 22:
                check("late(" + b + ")", m.late(b), x.late(b));
                break;
            case 23:
                int what = near(0, 2);
                check("deal(" + b + ", " + c + ", " + what + ")", m.deal(b, c, what), x.deal(b, c, what));
                break;
            case 24:
                check("mean(" + v + ", " + b + ", " + two + ")", m.mean(v, b, two), x.mean(v, b, two));
                break;
            case 25:
                check("luck(" + v + ", " + b + ", " + c + ")", m.luck(v, b, c, two), x.luck(v, b, c, two));
                break;
            default:
                int seed = random.nextInt();
                int n = near(1, 20);
                check("drift(" + seed + ", " + n + ")", m.drift(seed, n, two), x.drift(seed, n, two));
        }
    }

    private void rows(int which) {
        int k = near(0, 3);
        int lane = near(0, 2);
        int v = random.nextInt(4) == 0 ? random.nextInt() : random.nextInt(8);
        switch (which) {
            case 27:
            case 28:
            case 29:
                seeOne();
                break;
            case 30:
                int n = near(0, m.w.seen().size());
                check("forget(" + n + ")", m.forget(n), x.forget(n));
                break;
            case 31:
            case 32:
                int what = near(0, 3);
                check("fits(" + what + ")", m.fits(what), x.fits(what));
                break;
            case 33:
                k = near(0, 1);
                check("keep(" + k + ")", m.keep(k), x.keep(k));
                break;
            case 34:
                k = near(0, 1);
                check("back(" + k + ")", m.back(k), x.back(k));
                break;
            case 35:
            case 36:
                int size = near(0, 40);
                check("sheet(" + k + ", " + lane + ", " + size + ")", m.sheet(k, lane, size), x.sheet(k, lane, size));
                break;
            case 37:
                compareState();
                break;
            case 38:
            case 39:
                int i = near(0, 39);
                check("lay(" + k + ", " + i + ", " + v + ")", m.lay(k, i, v), x.lay(k, i, v));
                break;
            case 40:
                what = near(0, 5);
                check("count(" + what + ")", m.count(what), x.count(what));
                break;
            default:
                readSome(which % 2 == 0 ? 0 : k, lane);
        }
    }

    /** Often what truly passes, so that something fits. */
    private void seeOne() {
        int i = boat();
        int b = random.nextInt(3) > 0 ? m.passes(i) : boat();
        check("see(" + i + ", " + b + ")", m.see(i, b), x.see(i, b));
    }

    private void readSome(int k, int lane) {
        if (k == 0 && random.nextInt(3) > 0) {
            for (int i = random.nextInt(6); i < 8; i++) {
                int v = i % 2 == 0 ? boat() : near(0, spread);
                check("lay(0, " + i + ", " + v + ")", m.lay(0, i, v), x.lay(0, i, v));
            }
        }
        int f = random.nextInt(3) > 0 ? 0 : near(-1, 40);
        int n = random.nextInt(3) > 0 ? upTo(4) : near(0, 20);
        check("read(" + k + ", " + lane + ", " + f + ", " + n + ")", m.read(k, lane, f, n), x.read(k, lane, f, n));
        check("torn()", m.torn(), x.torn());
    }

    private void compareState() {
        for (int what = 0; what < 8; what++) {
            check("rule(" + what + ")", m.rule(what), x.rule(what));
            check("count(" + what + ")", m.count(what), x.count(what));
        }
        for (int b = -1; b < 7; b++) {
            for (int what = -1; what < 8; what++) {
                check("boat(" + b + ", " + what + ")", m.boat(b, what), x.boat(b, what));
            }
        }
    }
}
