import java.math.BigInteger;
import java.util.ArrayList;
import java.util.Comparator;
import java.util.HashMap;
import java.util.HashSet;
import java.util.List;
import java.util.Map;
import java.util.Set;
import java.util.TreeMap;
import java.util.TreeSet;
import java.util.function.IntPredicate;
import java.util.regex.Matcher;
import java.util.regex.Pattern;
import java.util.stream.Collectors;
import java.util.stream.IntStream;

/**
 * The same promises a second time, as plainly as the Java library lets them be told: without bounds kept
 * low, rows kept for reuse or shortcuts, and with the sheets' faults left to the machine itself.
 */
final class Model {
    static final int BAD = -1, STATE = -2, FULL = -3, NONE = -4;
    private static final List<String> KINDS = List.of("mail", "fish", "beer", "coal");
    private static final List<String> LAW_NAMES = List.of("gate", "ready", "twos", "cargo", "queue");

    record Boat(int side, int cargo, int arrives, int worth, int boy) {
        Boat with(int what, int v) {
            return new Boat(what == 0 ? v : side, what == 1 ? v : cargo, what == 2 ? v : arrives,
                    what == 3 ? v : worth, what == 4 ? v : boy);
        }

        int get(int what) {
            return new int[] {side, cargo, arrives, worth, boy}[what];
        }
    }

    record Sight(int i, int b) {
    }

    record World(List<Integer> rules, List<Boat> boats, Set<Integer> liars, List<Sight> seen) {
        static World empty() {
            return new World(List.of(5, 2, 0, 0, 0, 0), List.of(), Set.of(), List.of());
        }

        World rule(int what, int v) {
            List<Integer> r = new ArrayList<>(rules);
            r.set(what, v);
            return new World(r, boats, liars, seen);
        }

        World boat(int b, int what, int v) {
            List<Boat> r = new ArrayList<>(boats);
            r.set(b, r.get(b).with(what, v));
            return new World(rules, r, liars, seen);
        }

        World liars(Set<Integer> who) {
            return new World(rules, boats, who, seen);
        }

        World flip(int b) {
            Set<Integer> r = new TreeSet<>(liars);
            if (!r.remove(b)) {
                r.add(b);
            }
            return liars(r);
        }

        World seen(List<Sight> s) {
            return new World(rules, boats, liars, s);
        }

        int counts(int b) {
            Boat x = boats.get(b);
            boolean hand = rules.get(5) == 1 && x.boy > rules.get(4);
            int from = hand ? x.arrives - x.boy : x.arrives - rules.get(4);
            return from < 0 ? 0 : from;
        }
    }

    /** What a day was like. */
    static final class Outcome {
        final List<Integer> order = new ArrayList<>();
        final Map<Integer, Integer> stood = new HashMap<>();
        final Map<Integer, Integer> through = new HashMap<>();
        int cost;
        int water;
        int turned;
        int time;
        int ready;

        int longest() {
            return stood.values().stream().mapToInt(x -> x).max().orElse(0);
        }

        int what(int what) {
            return new int[] {cost, longest(), water, time, turned}[what];
        }

        void pass(World w, int b) {
            Boat x = w.boats.get(b);
            if (ready != x.side) {
                time += w.rules.get(1);
                turned++;
                if (x.side == 1) {
                    water++;
                }
            }
            if (x.side == 0) {
                water++;
            }
            if (time < x.arrives) {
                time = x.arrives;
            }
            stood.put(b, time - x.arrives);
            cost += (time - x.arrives) * x.worth;
            time += w.rules.get(0);
            through.put(b, time);
            ready = 1 - x.side;
            order.add(b);
        }
    }

    static Outcome inOrder(World w, List<Integer> order) {
        Outcome o = new Outcome();
        o.ready = w.rules.get(2);
        for (int b : order) {
            o.pass(w, b);
        }
        return o;
    }

    static Outcome day(World w) {
        return day(w, Set.of());
    }

    /** Minute by minute: whenever the lock is free and one counts, one passes. */
    static Outcome day(World w, Set<Integer> caught) {
        Outcome o = new Outcome();
        o.ready = w.rules.get(2);
        while (o.order.size() < w.boats.size()) {
            List<Integer> waiting = new ArrayList<>();
            for (int b = 0; b < w.boats.size(); b++) {
                if (!o.order.contains(b) && w.counts(b) <= o.time) {
                    waiting.add(b);
                }
            }
            if (waiting.isEmpty()) {
                o.time++;
            } else {
                o.pass(w, take(w, o, waiting, caught));
            }
        }
        return o;
    }

    private static int take(World w, Outcome o, List<Integer> waiting, Set<Integer> caught) {
        waiting.sort(Comparator.<Integer>comparingInt(w::counts).thenComparingInt(b -> b));
        switch (w.rules.get(3)) {
            case 0:
                return waiting.get(0);
            case 1:
                return fromSide(w, waiting, o.ready);
            case 2: {
                int n = o.order.size();
                if (n == 0) {
                    return fromSide(w, waiting, w.rules.get(2));
                }
                int last = w.boats.get(o.order.get(n - 1)).side;
                boolean two = n >= 2 && w.boats.get(o.order.get(n - 2)).side == last;
                return fromSide(w, waiting, two ? 1 - last : last);
            }
            case 3: {
                int[] tells = new int[w.boats.size()];
                for (int b = 0; b < tells.length; b++) {
                    tells[b] = !w.liars.contains(b) ? w.boats.get(b).cargo : caught.contains(b) ? 4 : 0;
                }
                return waiting.stream().min(Comparator.comparingInt(b -> tells[b])).get();
            }
            default: {
                long above = waiting.stream().filter(b -> w.boats.get(b).side == 0).count();
                long below = waiting.size() - above;
                return fromSide(w, waiting, above > below ? 0 : below > above ? 1 : o.ready);
            }
        }
    }

    private static int fromSide(World w, List<Integer> waiting, int side) {
        return waiting.stream().filter(b -> w.boats.get(b).side == side).findFirst().orElse(waiting.get(0));
    }

    // ---- the calls

    World w = World.empty();
    String tape = "";
    int fault;
    int torn;
    final Map<Integer, World> images = new TreeMap<>();
    final Object[] sheets = new Object[4];

    private boolean no(int v, int least, int most) {
        return v < least || v > most;
    }

    private boolean noBoat(int b) {
        return b < 0 || b >= w.boats.size();
    }

    private static int bits(Iterable<Integer> set) {
        int r = 0;
        for (int b : set) {
            r += 1 << b;
        }
        return r;
    }

    private static Set<Integer> setOf(int bits) {
        return IntStream.range(0, 10).filter(b -> (bits & 1 << b) != 0).boxed().collect(Collectors.toSet());
    }

    private static int lawsWhere(IntPredicate p) {
        return IntStream.range(0, 5).filter(p).map(law -> 1 << law).sum();
    }

    int feed(int c) {
        if (no(c, 0, 127)) {
            return BAD;
        }
        if (tape.length() == 160) {
            return FULL;
        }
        tape += (char) c;
        return tape.length();
    }

    int end(int n) {
        if (no(n, 0, tape.length())) {
            return BAD;
        }
        int had = tape.length();
        tape = tape.substring(0, n);
        return had;
    }

    private static final class Faulty extends Exception {
        private static final long serialVersionUID = 1;
        final int fault;
        final int place;

        Faulty(int fault, int place) {
            this.fault = fault;
            this.place = place;
        }
    }

    private static final class Parser {
        private static final Pattern TOKEN = Pattern.compile(" *([a-z]+|[0-9]+|;|$|)", Pattern.DOTALL);
        private final Matcher m;
        private final String tape;
        private int at;
        private int place;
        final List<Boat> boats = new ArrayList<>();
        final Set<Integer> liars = new TreeSet<>();
        final Set<String> once = new HashSet<>();
        World w = World.empty();
        int lines;

        Parser(String tape) {
            this.tape = tape;
            m = TOKEN.matcher(tape);
        }

        private String token() throws Faulty {
            m.region(at, tape.length());
            m.lookingAt();
            String t = m.group(1);
            place = m.start(1);
            at = m.end();
            boolean number = !t.isEmpty() && Character.isDigit(t.charAt(0));
            if (t.isEmpty() && place < tape.length() || number && t.length() > 2) {
                throw new Faulty(1, place);
            }
            return t;
        }

        private int number(int least, int most) throws Faulty {
            String t = token();
            if (!t.matches("[0-9]+")) {
                throw new Faulty(2, place);
            }
            int v = Integer.parseInt(t);
            if (v < least || v > most) {
                throw new Faulty(3, place);
            }
            return v;
        }

        private int oneOf(List<String> names) throws Faulty {
            int i = names.indexOf(token());
            if (i < 0) {
                throw new Faulty(2, place);
            }
            return i;
        }

        World parse() throws Faulty {
            for (String name = token(); !name.isEmpty(); name = token()) {
                line(name);
                if (!token().equals(";")) {
                    throw new Faulty(2, place);
                }
                lines++;
            }
            for (int liar : liars) {
                if (liar >= boats.size()) {
                    throw new Faulty(6, tape.length());
                }
            }
            return new World(w.rules, boats, liars, List.of());
        }

        private void line(String name) throws Faulty {
            if (!Set.of("lock", "above", "below", "law", "post", "hand", "liar").contains(name)) {
                throw new Faulty(2, place);
            }
            if (Set.of("lock", "law", "post", "hand").contains(name) && !once.add(name)) {
                throw new Faulty(4, place);
            }
            switch (name) {
                case "lock":
                    w = w.rule(0, number(1, 9)).rule(1, number(0, 9)).rule(2, number(0, 1));
                    break;
                case "law":
                    w = w.rule(3, oneOf(LAW_NAMES));
                    break;
                case "post":
                    w = w.rule(4, number(0, 9));
                    break;
                case "hand":
                    w = w.rule(5, 1);
                    break;
                case "liar":
                    if (!liars.add(number(0, 5))) {
                        throw new Faulty(4, place);
                    }
                    break;
                default:
                    if (boats.size() == 6) {
                        throw new Faulty(5, place);
                    }
                    boats.add(new Boat(name.equals("above") ? 0 : 1, oneOf(KINDS), number(0, 99), number(0, 9),
                            number(0, 9)));
            }
        }
    }

    int text() {
        Parser p = new Parser(tape);
        tape = "";
        try {
            w = p.parse();
            fault = 0;
            images.clear();
            return p.lines;
        } catch (Faulty f) {
            fault = f.fault;
            return -10 - f.place;
        }
    }

    int fault() {
        return fault;
    }

    int rule(int what) {
        return no(what, 0, 7) ? BAD : what < 6 ? w.rules.get(what) : what == 6 ? w.boats.size() : bits(w.liars);
    }

    int boat(int b, int what) {
        if (noBoat(b) || no(what, 0, 6)) {
            return BAD;
        }
        return what < 5 ? w.boats.get(b).get(what) : what == 5 ? (w.liars.contains(b) ? 1 : 0) : w.counts(b);
    }

    int set(int what, int v) {
        if (no(what, 0, 5) || no(v, what == 0 ? 1 : 0, new int[] {9, 9, 1, 4, 9, 1}[what])) {
            return BAD;
        }
        int was = w.rules.get(what);
        w = w.rule(what, v);
        return was;
    }

    int alter(int b, int what, int v) {
        if (noBoat(b) || no(what, 1, 4) || no(v, 0, new int[] {1, 3, 99, 9, 9}[what])) {
            return BAD;
        }
        int was = w.boats.get(b).get(what);
        w = w.boat(b, what, v);
        return was;
    }

    int lie(int b, boolean is) {
        if (noBoat(b)) {
            return BAD;
        }
        boolean was = w.liars.contains(b);
        if (was != is) {
            w = w.flip(b);
        }
        return was ? 1 : 0;
    }

    int cross(int b) {
        if (noBoat(b)) {
            return BAD;
        }
        int was = w.boats.get(b).side;
        w = w.boat(b, 0, 1 - was);
        return was;
    }

    int passes(int i) {
        return noBoat(i) ? BAD : day(w).order.get(i);
    }

    int through(int b) {
        return noBoat(b) ? BAD : day(w).through.get(b);
    }

    int stood(int b) {
        return noBoat(b) ? BAD : day(w).stood.get(b);
    }

    int day(int what) {
        return no(what, 0, 4) ? BAD : day(w).what(what);
    }

    int table(int law, int what) {
        return no(law, 0, 4) || no(what, 0, 4) ? BAD : day(w.rule(3, law)).what(what);
    }

    int best(int what) {
        if (no(what, 0, 4)) {
            return BAD;
        }
        return IntStream.range(0, 5).boxed().min(Comparator.comparingInt(law -> table(law, what))).get();
    }

    /** All orders, the first by numbers first. */
    private static List<List<Integer>> orders(int n, List<Integer> head) {
        List<List<Integer>> all = new ArrayList<>();
        if (head.size() == n) {
            all.add(head);
        }
        for (int b = 0; b < n; b++) {
            if (!head.contains(b)) {
                List<Integer> longer = new ArrayList<>(head);
                longer.add(b);
                all.addAll(orders(n, longer));
            }
        }
        return all;
    }

    int order(int what) {
        if (what != 0 && no(what, 10, 9 + w.boats.size())) {
            return BAD;
        }
        List<Integer> best = orders(w.boats.size(), List.of()).stream()
                .min(Comparator.comparingInt(o -> inOrder(w, o).cost)).get();
        return what == 0 ? inOrder(w, best).cost : best.get(what - 10);
    }

    int firsts(int b) {
        return noBoat(b) ? BAD : lawsWhere(law -> day(w.rule(3, law)).order.get(0) == b);
    }

    private static int gained(World w, int b) {
        return day(w).stood.get(b) - day(w.flip(b)).stood.get(b);
    }

    private static boolean noneGains(World w) {
        return IntStream.range(0, w.boats.size()).allMatch(b -> gained(w, b) <= 0);
    }

    int gain(int b) {
        return noBoat(b) ? BAD : 1000 + gained(w, b);
    }

    int calm() {
        return lawsWhere(law -> noneGains(w.rule(3, law)));
    }

    int rests(int what) {
        if (no(what, 0, 1)) {
            return BAD;
        }
        int[] rest = IntStream.range(0, 1 << w.boats.size()).filter(s -> noneGains(w.liars(setOf(s)))).toArray();
        return what == 0 ? rest.length : rest.length == 0 ? NONE : rest[0];
    }

    int boy(int b, int c) {
        if (noBoat(b) || noBoat(c) || b == c) {
            return BAD;
        }
        for (int v = 0; v < 10; v++) {
            List<Integer> o = day(w.boat(b, 4, v)).order;
            if (o.indexOf(b) < o.indexOf(c)) {
                return v;
            }
        }
        return NONE;
    }

    int post(int what) {
        if (no(what, 0, 1)) {
            return BAD;
        }
        int best = IntStream.range(0, 10).boxed().min(Comparator.comparingInt(p -> day(w.rule(4, p)).cost)).get();
        return what == 0 ? best : day(w.rule(4, best)).cost;
    }

    int late(int b) {
        if (noBoat(b)) {
            return BAD;
        }
        int now = through(b);
        int arrives = w.boats.get(b).arrives;
        return IntStream.rangeClosed(0, 60).filter(d -> day(w.boat(b, 2, arrives + d)).through.get(b) <= now).max()
                .getAsInt();
    }

    int deal(int b, int c, int what) {
        if (noBoat(b) || noBoat(c) || b == c || no(what, 0, 2)) {
            return BAD;
        }
        Outcome now = day(w);
        List<Integer> swapped = new ArrayList<>(now.order);
        swapped.set(now.order.indexOf(b), c);
        swapped.set(now.order.indexOf(c), b);
        Outcome then = inOrder(w, swapped);
        if (what == 2) {
            return 10000 + now.cost - then.cost;
        }
        int who = what == 0 ? b : c;
        return 10000 + (now.stood.get(who) - then.stood.get(who)) * w.boats.get(who).worth;
    }

    private interface Value {
        int of(Outcome o);
    }

    private long expected(int v, Value value, int what) {
        BigInteger sum = BigInteger.ZERO;
        BigInteger all = BigInteger.TEN.pow(w.liars.size());
        for (int bits = 0; bits < 64; bits++) {
            Set<Integer> caught = setOf(bits);
            if (!w.liars.containsAll(caught)) {
                continue;
            }
            BigInteger weight = BigInteger.valueOf(v).pow(caught.size())
                    .multiply(BigInteger.valueOf(10 - v).pow(w.liars.size() - caught.size()));
            sum = sum.add(weight.multiply(BigInteger.valueOf(value.of(day(w, caught)))));
        }
        BigInteger g = sum.gcd(all);
        return (what == 0 ? sum : all).divide(g).longValueExact();
    }

    long mean(int v, int b, int what) {
        return no(v, 0, 10) || noBoat(b) || no(what, 0, 1) ? BAD : expected(v, o -> o.stood.get(b), what);
    }

    long luck(int v, int b, int i, int what) {
        return no(v, 0, 10) || noBoat(b) || noBoat(i) || no(what, 0, 1) ? BAD
                : expected(v, o -> o.order.get(i) == b ? 1 : 0, what);
    }

    int see(int i, int b) {
        if (noBoat(i) || noBoat(b)) {
            return BAD;
        }
        if (w.seen.size() == 6) {
            return FULL;
        }
        List<Sight> more = new ArrayList<>(w.seen);
        more.add(new Sight(i, b));
        w = w.seen(more);
        return more.size();
    }

    int forget(int n) {
        if (no(n, 0, w.seen.size())) {
            return BAD;
        }
        int were = w.seen.size();
        w = w.seen(new ArrayList<>(w.seen.subList(0, n)));
        return were;
    }

    int fits(int what) {
        if (no(what, 0, 3)) {
            return BAD;
        }
        Set<Integer> laws = new TreeSet<>();
        List<Set<Integer>> sets = new ArrayList<>();
        for (int law = 0; law < 5; law++) {
            for (int s = 0; s < 1 << w.boats.size(); s++) {
                List<Integer> order = day(w.rule(3, law).liars(setOf(s))).order;
                if (w.seen.stream().allMatch(x -> order.get(x.i) == x.b)) {
                    laws.add(law);
                    sets.add(setOf(s));
                }
            }
        }
        if (what == 0) {
            return sets.size();
        }
        if (what == 1) {
            return bits(laws);
        }
        return sets.isEmpty() ? NONE : IntStream.range(0, w.boats.size())
                .filter(b -> sets.stream().allMatch(s -> s.contains(b) == (what == 2))).map(b -> 1 << b).sum();
    }

    int drift(int seed, int n, int what) {
        if (no(n, 1, 20) || no(what, 0, 1)) {
            return BAD;
        }
        BigInteger s = BigInteger.valueOf(seed);
        World d = w;
        int sum = 0;
        for (int i = 0; i < n; i++) {
            for (int b = 0; b < w.boats.size(); b++) {
                s = s.multiply(BigInteger.valueOf(1103515245)).add(BigInteger.valueOf(12345));
                int bits = s.shiftRight(16).mod(BigInteger.valueOf(1 << 15)).intValue();
                d = d.boat(b, 2, bits % 40);
            }
            sum += what == 0 ? day(d).cost : day(d).water;
        }
        return sum;
    }

    int keep(int k) {
        return no(k, 0, 1) ? BAD : images.put(k, w) == null ? 0 : 1;
    }

    int back(int k) {
        if (no(k, 0, 1)) {
            return BAD;
        }
        if (!images.containsKey(k)) {
            return STATE;
        }
        w = images.get(k);
        return day(3);
    }

    int sheet(int k, int lane, int n) {
        if (no(k, 0, 3) || no(lane, 0, 2) || n > 40) {
            return BAD;
        }
        try {
            sheets[k] = lane == 0 ? new byte[n] : lane == 1 ? new short[n] : (Object) new int[n];
            return 1;
        } catch (NegativeArraySizeException e) {
            return -14;
        }
    }

    int lay(int k, int i, int v) {
        if (no(k, 0, 3)) {
            return BAD;
        }
        try {
            if (sheets[k] instanceof byte[]) {
                ((byte[]) sheets[k])[i] = (byte) v;
            } else if (sheets[k] instanceof short[]) {
                ((short[]) sheets[k])[i] = (short) v;
            } else {
                ((int[]) sheets[k])[i] = v;
            }
            return 1;
        } catch (NullPointerException e) {
            return -11;
        } catch (ArrayIndexOutOfBoundsException e) {
            return -12;
        }
    }

    private static int cell(Object row, int lane, int i) {
        return lane == 0 ? ((byte[]) row)[i] : lane == 1 ? ((short[]) row)[i] : ((int[]) row)[i];
    }

    /** The row is cast anew for each cell: of none that is read the machine refuses nothing. */
    private static void readInto(List<int[]> pairs, Object row, int lane, int f, int n) {
        for (int i = f; pairs.size() < n; i += 2) {
            pairs.add(new int[] {cell(row, lane, i), cell(row, lane, i + 1)});
        }
    }

    int read(int k, int lane, int f, int n) {
        if (no(k, 0, 3) || no(lane, 0, 2) || no(n, 0, 20)) {
            return BAD;
        }
        List<int[]> pairs = new ArrayList<>();
        int found = 0;
        try {
            readInto(pairs, sheets[k], lane, f, n);
        } catch (NullPointerException e) {
            found = 1;
        } catch (ArrayIndexOutOfBoundsException e) {
            found = 2;
        } catch (ClassCastException e) {
            found = 3;
        }
        World was = w;
        for (int i = 0; i < pairs.size(); i++) {
            if (alter(pairs.get(i)[0], 2, pairs.get(i)[1]) == BAD) {
                w = was;
                return -20 - i;
            }
        }
        torn = found;
        return pairs.size();
    }

    int torn() {
        return torn;
    }

    int count(int what) {
        switch (what) {
            case 0:
                return (int) w.boats.stream().filter(b -> b.side == 0).count();
            case 1:
                return w.seen.size();
            case 2:
                return images.size();
            case 3:
                return tape.length();
            case 4:
                return sheets[0] == null ? NONE : java.lang.reflect.Array.getLength(sheets[0]);
            case 5:
                return w.liars.size();
            default:
                return BAD;
        }
    }
}
