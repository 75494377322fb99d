import java.util.Arrays;

/** Who has the lock first. The promises by number stand in ../shared/DOC.md. */
public final class LockTurns {
    public static final int BAD = -1, STATE = -2, FULL = -3, NONE = -4;

    private static final int ABOVE = 0, BELOW = 1;

    private static final int PASS = 0, TURN = 1, READY = 2, LAW = 3, POST = 4, HAND = 5;
    private static final int RULES = 6;
    private static final int[] RULE_LEAST = {1, 0, 0, 0, 0, 0};
    private static final int[] RULE_MOST = {9, 9, 1, 4, 9, 1};
    private static final int[] RULE_AT_FIRST = {5, 2, 0, 0, 0, 0};

    private static final int SIDE = 0, CARGO = 1, ARRIVES = 2, WORTH = 3, BOY = 4;
    private static final int MARKS = 5;
    private static final int[] MARK_MOST = {1, 3, 99, 9, 9};

    private static final int BY_READY = 1, BY_TWOS = 2, BY_CARGO = 3, BY_QUEUE = 4;
    private static final int LAWS = 5;

    private static final int BOATS = 6;
    private static final int LIAR_SETS = 64;
    private static final int SEEN = 6;
    private static final int IMAGES = 2;
    private static final int SHEETS = 4;

    private static final int COST = 0, WATER = 2, LAST = 3, MEASURES = 5;
    /** More than any minute and any cost of a day can be. */
    private static final int BEYOND_ALL = 1000000;

    private static final int MINUTES_AHEAD = 9;
    private static final int MINUTES_LATER = 60;
    private static final int ODDS = 10;
    private static final int DRIFT_DAYS = 20;
    private static final int READ_BOATS = 20;

    private static final int NULL_FAULT = 1, INDEX_FAULT = 2, CAST_FAULT = 3, SIZE_FAULT = 4;

    private final Lock now;
    private final Lock trial;
    private final Lock[] images;
    private int kept;
    private final Tape tape;
    private final Teller teller;
    private final Day run;
    private final Plan plan;
    private final int[] places;
    private final int[] stoodBySet;
    private final Sheet[] sheets;
    private int tornBy;

    public LockTurns() {
        now = new Lock();
        trial = new Lock();
        images = new Lock[IMAGES];
        for (int k = 0; k < IMAGES; k++) {
            images[k] = new Lock();
        }
        tape = new Tape();
        teller = new Teller(tape);
        run = new Day();
        plan = new Plan();
        places = new int[BOATS];
        stoodBySet = new int[LIAR_SETS * BOATS];
        sheets = new Sheet[SHEETS];
        for (int k = 0; k < SHEETS; k++) {
            sheets[k] = new Sheet();
        }
    }

    // ---- the text

    public int feed(int c) {
        if (!within(c, 0, 127)) {
            return BAD;
        }
        return tape.append(c) ? tape.length : FULL;
    }

    public int end(int n) {
        if (!within(n, 0, tape.length)) {
            return BAD;
        }
        int had = tape.length;
        tape.length = n;
        return had;
    }

    public int text() {
        int lines = teller.tell();
        tape.length = 0;
        if (lines >= 0) {
            now.copyFrom(teller.told);
            kept = 0;
        }
        return lines;
    }

    public int fault() {
        return teller.fault;
    }

    public int rule(int what) {
        if (!within(what, 0, 7)) {
            return BAD;
        }
        if (what == 6) {
            return now.boats;
        }
        return what == 7 ? now.liars : now.rules[what];
    }

    public int boat(int b, int what) {
        if (!isBoat(b) || !within(what, 0, 6)) {
            return BAD;
        }
        if (what == 5) {
            return now.liars >> b & 1;
        }
        return what == 6 ? now.countsFrom(b) : now.mark(b, what);
    }

    // ---- what is changed

    public int set(int what, int v) {
        if (!within(what, PASS, HAND) || !within(v, RULE_LEAST[what], RULE_MOST[what])) {
            return BAD;
        }
        int was = now.rules[what];
        now.rules[what] = v;
        return was;
    }

    public int alter(int b, int what, int v) {
        if (!isBoat(b) || !within(what, CARGO, BOY) || !within(v, 0, MARK_MOST[what])) {
            return BAD;
        }
        int was = now.mark(b, what);
        now.setMark(b, what, v);
        return was;
    }

    public int lie(int b, boolean is) {
        if (!isBoat(b)) {
            return BAD;
        }
        int was = now.liars >> b & 1;
        now.liars = is ? now.liars | 1 << b : now.liars & ~(1 << b);
        return was;
    }

    public int cross(int b) {
        if (!isBoat(b)) {
            return BAD;
        }
        int was = now.mark(b, SIDE);
        now.setMark(b, SIDE, otherSide(was));
        return was;
    }

    // ---- a day

    public int passes(int i) {
        if (!isBoat(i)) {
            return BAD;
        }
        runAsTold(now);
        return run.passing[i];
    }

    public int through(int b) {
        if (!isBoat(b)) {
            return BAD;
        }
        runAsTold(now);
        return run.through[b];
    }

    public int stood(int b) {
        if (!isBoat(b)) {
            return BAD;
        }
        runAsTold(now);
        return run.stood[b];
    }

    public int day(int what) {
        return table(now.rules[LAW], what);
    }

    public int table(int law, int what) {
        if (!isLaw(law) || !isMeasure(what)) {
            return BAD;
        }
        run.by(now, law, now.liars, 0);
        return run.measure(what);
    }

    public int best(int what) {
        if (!isMeasure(what)) {
            return BAD;
        }
        int best = 0;
        int least = BEYOND_ALL;
        for (int law = 0; law < LAWS; law++) {
            run.by(now, law, now.liars, 0);
            int is = run.measure(what);
            if (is < least) {
                least = is;
                best = law;
            }
        }
        return best;
    }

    public int order(int what) {
        if (what != 0 && !within(what, 10, 9 + now.boats)) {
            return BAD;
        }
        plan.seekLeastCost(now);
        return what == 0 ? plan.cost : plan.best[what - 10];
    }

    // ---- laws, lies

    public int firsts(int b) {
        if (!isBoat(b)) {
            return BAD;
        }
        int laws = 0;
        for (int law = 0; law < LAWS; law++) {
            run.by(now, law, now.liars, 0);
            if (run.passing[0] == b) {
                laws |= 1 << law;
            }
        }
        return laws;
    }

    public int gain(int b) {
        if (!isBoat(b)) {
            return BAD;
        }
        return 1000 + gained(now.rules[LAW], b);
    }

    public int calm() {
        int laws = 0;
        for (int law = 0; law < LAWS; law++) {
            if (isCalm(law)) {
                laws |= 1 << law;
            }
        }
        return laws;
    }

    public int rests(int what) {
        if (!within(what, 0, 1)) {
            return BAD;
        }
        fillStoodBySet(now.rules[LAW]);
        int many = 0;
        int least = NONE;
        for (int set = 0; set < liarSets(); set++) {
            if (isRest(set)) {
                many++;
                least = least == NONE ? set : least;
            }
        }
        return what == 0 ? many : least;
    }

    private boolean isCalm(int law) {
        for (int b = 0; b < now.boats; b++) {
            if (gained(law, b) > 0) {
                return false;
            }
        }
        return true;
    }

    private int gained(int law, int b) {
        if (!hearsLies(law)) {
            return 0;
        }
        run.by(now, law, now.liars, 0);
        int stands = run.stood[b];
        run.by(now, law, now.liars ^ 1 << b, 0);
        return stands - run.stood[b];
    }

    private void fillStoodBySet(int law) {
        for (int set = 0; set < liarSets(); set++) {
            if (set == 0 || hearsLies(law)) {
                run.by(now, law, set, 0);
            }
            System.arraycopy(run.stood, 0, stoodBySet, set * BOATS, BOATS);
        }
    }

    private boolean isRest(int set) {
        for (int b = 0; b < now.boats; b++) {
            int other = set ^ 1 << b;
            if (stoodBySet[other * BOATS + b] < stoodBySet[set * BOATS + b]) {
                return false;
            }
        }
        return true;
    }

    // ---- boys, posts, prices

    public int boy(int b, int c) {
        if (!isPair(b, c)) {
            return BAD;
        }
        trial.copyFrom(now);
        for (int ahead = 0; ahead <= MINUTES_AHEAD; ahead++) {
            trial.setMark(b, BOY, ahead);
            runAsTold(trial);
            if (run.through[b] < run.through[c]) {
                return ahead;
            }
        }
        return NONE;
    }

    public int post(int what) {
        if (!within(what, 0, 1)) {
            return BAD;
        }
        trial.copyFrom(now);
        int best = 0;
        int least = BEYOND_ALL;
        for (int out = 0; out <= MINUTES_AHEAD; out++) {
            trial.rules[POST] = out;
            runAsTold(trial);
            if (run.cost < least) {
                least = run.cost;
                best = out;
            }
        }
        return what == 0 ? best : least;
    }

    public int late(int b) {
        if (!isBoat(b)) {
            return BAD;
        }
        runAsTold(now);
        int through = run.through[b];
        // Who arrives later than it passes now can't be through as early.
        int most = Math.min(MINUTES_LATER, run.stood[b]);
        int arrives = now.mark(b, ARRIVES);
        trial.copyFrom(now);
        for (int later = most; later > 0; later--) {
            trial.setMark(b, ARRIVES, arrives + later);
            runAsTold(trial);
            if (run.through[b] <= through) {
                return later;
            }
        }
        return 0;
    }

    public int deal(int b, int c, int what) {
        if (!isPair(b, c) || !within(what, 0, 2)) {
            return BAD;
        }
        int whose = what == 0 ? b : c;
        runAsTold(now);
        int was = what == 2 ? run.cost : run.costOf(now, whose);
        for (int i = 0; i < now.boats; i++) {
            int passes = run.passing[i];
            places[i] = passes == b ? c : passes == c ? b : passes;
        }
        run.inOrder(now, places);
        int is = what == 2 ? run.cost : run.costOf(now, whose);
        return 10000 + was - is;
    }

    // ---- a keeper

    public long mean(int v, int b, int what) {
        if (!within(v, 0, ODDS) || !isBoat(b) || !within(what, 0, 1)) {
            return BAD;
        }
        long sum = 0;
        for (int caught = 0; caught <= now.liars; caught++) {
            long weight = weight(v, caught);
            if (weight > 0) {
                run.by(now, now.rules[LAW], now.liars, caught);
                sum += weight * run.stood[b];
            }
        }
        return lowest(sum, weightOfAll(), what);
    }

    public long luck(int v, int b, int i, int what) {
        if (!within(v, 0, ODDS) || !isBoat(b) || !isBoat(i) || !within(what, 0, 1)) {
            return BAD;
        }
        long sum = 0;
        for (int caught = 0; caught <= now.liars; caught++) {
            long weight = weight(v, caught);
            if (weight > 0) {
                run.by(now, now.rules[LAW], now.liars, caught);
                sum += run.passing[i] == b ? weight : 0;
            }
        }
        return lowest(sum, weightOfAll(), what);
    }

    /** How many of all 10 to the power of the liars cases see through just these; 0, if one is no liar. */
    private long weight(int v, int caught) {
        if ((caught & ~now.liars) != 0) {
            return 0;
        }
        long weight = 1;
        for (int b = 0; b < now.boats; b++) {
            if ((now.liars >> b & 1) == 1) {
                weight *= (caught >> b & 1) == 1 ? v : ODDS - v;
            }
        }
        return weight;
    }

    private long weightOfAll() {
        long all = 1;
        for (int b = 0; b < now.boats; b++) {
            all *= (now.liars >> b & 1) == 1 ? ODDS : 1;
        }
        return all;
    }

    private static long lowest(long above, long below, int what) {
        long common = commonDivisor(above, below);
        if (common < 1) {
            return 0;
        }
        return what == 0 ? above / common : below / common;
    }

    private static long commonDivisor(long a, long b) {
        // Each second step halves a long at least, so 200 steps are more than enough.
        for (int step = 0; step < 200 && b != 0; step++) {
            long rest = a % b;
            a = b;
            b = rest;
        }
        return a;
    }

    // ---- which law they kept

    public int see(int i, int b) {
        if (!isBoat(i) || !isBoat(b)) {
            return BAD;
        }
        return now.addSeen(i, b) ? now.seen : FULL;
    }

    public int forget(int n) {
        if (!within(n, 0, now.seen)) {
            return BAD;
        }
        int were = now.seen;
        now.seen = n;
        return were;
    }

    public int fits(int what) {
        if (!within(what, 0, 3)) {
            return BAD;
        }
        int pairs = 0;
        int laws = 0;
        int inAll = liarSets() - 1;
        int inNone = liarSets() - 1;
        for (int law = 0; law < LAWS; law++) {
            boolean fit = false;
            for (int set = 0; set < liarSets(); set++) {
                if (set == 0 || hearsLies(law)) {
                    run.by(now, law, set, 0);
                    fit = run.isAsSeen(now);
                }
                if (fit) {
                    pairs++;
                    laws |= 1 << law;
                    inAll &= set;
                    inNone &= ~set;
                }
            }
        }
        if (what < 2) {
            return what == 0 ? pairs : laws;
        }
        if (pairs == 0) {
            return NONE;
        }
        return what == 2 ? inAll : inNone;
    }

    // ---- by a seed

    public int drift(int seed, int n, int what) {
        if (!within(n, 1, DRIFT_DAYS) || !within(what, 0, 1)) {
            return BAD;
        }
        trial.copyFrom(now);
        int next = seed;
        int sum = 0;
        for (int i = 0; i < n; i++) {
            for (int b = 0; b < trial.boats; b++) {
                next = next * 1103515245 + 12345;
                trial.setMark(b, ARRIVES, (next >> 16 & 0x7fff) % 40);
            }
            runAsTold(trial);
            sum += run.measure(what == 0 ? COST : WATER);
        }
        return sum;
    }

    // ---- images, sheets

    public int keep(int k) {
        if (!within(k, 0, IMAGES - 1)) {
            return BAD;
        }
        int was = kept >> k & 1;
        images[k].copyFrom(now);
        kept |= 1 << k;
        return was;
    }

    public int back(int k) {
        if (!within(k, 0, IMAGES - 1)) {
            return BAD;
        }
        if ((kept >> k & 1) == 0) {
            return STATE;
        }
        now.copyFrom(images[k]);
        return day(LAST);
    }

    public int sheet(int k, int lane, int n) {
        if (!isSheet(k) || !Sheet.isLane(lane) || n > Sheet.CELLS) {
            return BAD;
        }
        if (n < 0) {
            return -10 - SIZE_FAULT;
        }
        sheets[k].renew(lane, n);
        return 1;
    }

    public int lay(int k, int i, int v) {
        if (!isSheet(k)) {
            return BAD;
        }
        int fault = sheets[k].faultAt(i);
        if (fault != 0) {
            return -10 - fault;
        }
        sheets[k].put(i, v);
        return 1;
    }

    public int read(int k, int lane, int f, int n) {
        if (!isSheet(k) || !Sheet.isLane(lane) || !within(n, 0, READ_BOATS)) {
            return BAD;
        }
        Sheet sheet = sheets[k];
        int fault = 0;
        int whole = 0;
        for (int i = 0; i < n && fault == 0; i++) {
            fault = sheet.faultOfPair(lane, f + 2 * i);
            if (fault == 0) {
                if (!isComing(sheet, f + 2 * i)) {
                    return -20 - i;
                }
                whole++;
            }
        }
        for (int i = 0; i < whole; i++) {
            alter(sheet.cell(f + 2 * i), ARRIVES, sheet.cell(f + 2 * i + 1));
        }
        tornBy = fault;
        return whole;
    }

    public int torn() {
        return tornBy;
    }

    public int count(int what) {
        switch (what) {
            case 0:
                return now.boatsFrom(ABOVE);
            case 1:
                return now.seen;
            case 2:
                return Integer.bitCount(kept);
            case 3:
                return tape.length;
            case 4:
                return sheets[0].isNothing() ? NONE : sheets[0].size;
            case 5:
                return Integer.bitCount(now.liars);
            default:
                return BAD;
        }
    }

    private boolean isComing(Sheet sheet, int i) {
        return isBoat(sheet.cell(i)) && within(sheet.cell(i + 1), 0, MARK_MOST[ARRIVES]);
    }

    // ---- what the calls share

    private void runAsTold(Lock lock) {
        run.by(lock, lock.rules[LAW], lock.liars, 0);
    }

    private boolean isBoat(int b) {
        return within(b, 0, now.boats - 1);
    }

    private boolean isPair(int b, int c) {
        return isBoat(b) && isBoat(c) && b != c;
    }

    private int liarSets() {
        return 1 << now.boats;
    }

    private static boolean isLaw(int law) {
        return within(law, 0, LAWS - 1);
    }

    private static boolean isMeasure(int what) {
        return within(what, 0, MEASURES - 1);
    }

    private static boolean isSheet(int k) {
        return within(k, 0, SHEETS - 1);
    }

    /** By all other laws a day is the same, whoever lies. */
    private static boolean hearsLies(int law) {
        return law == BY_CARGO;
    }

    private static int otherSide(int side) {
        return side == ABOVE ? BELOW : ABOVE;
    }

    private static boolean within(int v, int least, int most) {
        return least <= v && v <= most;
    }

    /** All that an image keeps: the lock, the law, the boats, what was seen. */
    private static final class Lock {
        final int[] rules;
        private final int[] marks;
        int boats;
        int liars;
        int seen;
        private final int[] seenPlaces;
        private final int[] seenBoats;

        Lock() {
            rules = RULE_AT_FIRST.clone();
            marks = new int[BOATS * MARKS];
            seenPlaces = new int[SEEN];
            seenBoats = new int[SEEN];
        }

        void clear() {
            System.arraycopy(RULE_AT_FIRST, 0, rules, 0, RULES);
            boats = 0;
            liars = 0;
            seen = 0;
        }

        void copyFrom(Lock other) {
            System.arraycopy(other.rules, 0, rules, 0, RULES);
            System.arraycopy(other.marks, 0, marks, 0, BOATS * MARKS);
            System.arraycopy(other.seenPlaces, 0, seenPlaces, 0, SEEN);
            System.arraycopy(other.seenBoats, 0, seenBoats, 0, SEEN);
            boats = other.boats;
            liars = other.liars;
            seen = other.seen;
        }

        int mark(int b, int what) {
            return marks[b * MARKS + what];
        }

        void setMark(int b, int what, int v) {
            marks[b * MARKS + what] = v;
        }

        int countsFrom(int b) {
            int ahead = rules[POST];
            if (rules[HAND] == 1) {
                ahead = Math.max(ahead, mark(b, BOY));
            }
            return Math.max(0, mark(b, ARRIVES) - ahead);
        }

        int boatsFrom(int side) {
            int many = 0;
            for (int b = 0; b < boats; b++) {
                many += mark(b, SIDE) == side ? 1 : 0;
            }
            return many;
        }

        boolean addSeen(int i, int b) {
            if (seen >= SEEN) {
                return false;
            }
            seenPlaces[seen] = i;
            seenBoats[seen] = b;
            seen++;
            return true;
        }

        boolean wasSeenAs(int[] passing) {
            for (int s = 0; s < seen; s++) {
                if (passing[seenPlaces[s]] != seenBoats[s]) {
                    return false;
                }
            }
            return true;
        }
    }

    /** One day at the lock; what it tells is of the latest day that was run. */
    private static final class Day {
        private static final int SEEN_THROUGH = 4;

        final int[] passing;
        final int[] through;
        final int[] stood;
        private final int[] counts;
        private final int[] tells;
        private int passed;
        private int gone;
        private int free;
        private int ready;
        private int longest;
        private int water;
        private int turns;
        int cost;

        Day() {
            passing = new int[BOATS];
            through = new int[BOATS];
            stood = new int[BOATS];
            counts = new int[BOATS];
            tells = new int[BOATS];
        }

        /** A day by a law; the liars that are caught too are seen through. */
        void by(Lock lock, int law, int liars, int caught) {
            begin(lock);
            for (int b = 0; b < lock.boats; b++) {
                counts[b] = lock.countsFrom(b);
                tells[b] = lock.mark(b, CARGO);
                if ((liars >> b & 1) == 1) {
                    tells[b] = (caught >> b & 1) == 1 ? SEEN_THROUGH : 0;
                }
            }
            for (int i = 0; i < lock.boats; i++) {
                waitForOne(lock.boats);
                admit(lock, chosen(lock, law, sideAhead(lock, law)));
            }
        }

        /** A day on which the lock waits for each boat of an order, whatever counts. */
        void inOrder(Lock lock, int[] order) {
            begin(lock);
            for (int i = 0; i < lock.boats; i++) {
                admit(lock, order[i]);
            }
        }

        int measure(int what) {
            switch (what) {
                case COST:
                    return cost;
                case 1:
                    return longest;
                case WATER:
                    return water;
                case LAST:
                    return free;
                default:
                    return turns;
            }
        }

        int costOf(Lock lock, int b) {
            return stood[b] * lock.mark(b, WORTH);
        }

        boolean isAsSeen(Lock lock) {
            return lock.wasSeenAs(passing);
        }

        private void begin(Lock lock) {
            passed = 0;
            gone = 0;
            free = 0;
            ready = lock.rules[READY];
            longest = 0;
            water = 0;
            turns = 0;
            cost = 0;
        }

        private void waitForOne(int boats) {
            int first = BEYOND_ALL;
            for (int b = 0; b < boats; b++) {
                if ((gone >> b & 1) == 0) {
                    first = Math.min(first, counts[b]);
                }
            }
            free = Math.max(free, first);
        }

        private boolean waits(int b) {
            return (gone >> b & 1) == 0 && counts[b] <= free;
        }

        private int chosen(Lock lock, int law, int side) {
            int best = NONE;
            int leastRank = 0;
            for (int b = 0; b < lock.boats; b++) {
                if (waits(b)) {
                    int rank = rank(lock, law, side, b);
                    if (best < 0 || rank < leastRank || rank == leastRank && counts[b] < counts[best]) {
                        best = b;
                        leastRank = rank;
                    }
                }
            }
            return best;
        }

        /** The law takes one of the least rank. */
        private int rank(Lock lock, int law, int side, int b) {
            switch (law) {
                case BY_READY:
                case BY_TWOS:
                case BY_QUEUE:
                    return lock.mark(b, SIDE) == side ? 0 : 1;
                case BY_CARGO:
                    return tells[b];
                default:
                    return 0;
            }
        }

        private int sideAhead(Lock lock, int law) {
            if (law == BY_TWOS) {
                return sideByTwos(lock);
            }
            return law == BY_QUEUE ? sideByQueue(lock) : ready;
        }

        private int sideByTwos(Lock lock) {
            if (passed < 1) {
                return ready;
            }
            int last = lock.mark(passing[passed - 1], SIDE);
            if (passed < 2 || lock.mark(passing[passed - 2], SIDE) != last) {
                return last;
            }
            return otherSide(last);
        }

        private int sideByQueue(Lock lock) {
            int moreBelow = 0;
            for (int b = 0; b < lock.boats; b++) {
                if (waits(b)) {
                    moreBelow += lock.mark(b, SIDE) == BELOW ? 1 : -1;
                }
            }
            if (moreBelow == 0) {
                return ready;
            }
            return moreBelow > 0 ? BELOW : ABOVE;
        }

        private void admit(Lock lock, int b) {
            if (!within(b, 0, lock.boats - 1) || passed >= BOATS) {
                return;
            }
            int side = lock.mark(b, SIDE);
            if (ready != side) {
                free += lock.rules[TURN];
                turns++;
                water += side == BELOW ? 1 : 0;
            }
            water += side == ABOVE ? 1 : 0;
            int arrives = lock.mark(b, ARRIVES);
            int from = Math.max(free, arrives);
            free = from + lock.rules[PASS];
            ready = otherSide(side);
            stood[b] = from - arrives;
            through[b] = free;
            passing[passed] = b;
            passed++;
            gone |= 1 << b;
            longest = Math.max(longest, stood[b]);
            cost += costOf(lock, b);
        }
    }

    /** The order of the least cost, of several the first by numbers. */
    private static final class Plan {
        int cost;
        final int[] best;
        private final int[] path;

        Plan() {
            best = new int[BOATS];
            path = new int[BOATS];
        }

        void seekLeastCost(Lock lock) {
            cost = BEYOND_ALL;
            seek(lock, 0, 0, 0, lock.rules[READY], 0);
        }

        private void seek(Lock lock, int depth, int gone, int free, int ready, int soFar) {
            // Costs only grow, and an order found earlier is the lesser by numbers.
            if (soFar >= cost) {
                return;
            }
            if (depth >= lock.boats || depth >= BOATS) {
                cost = soFar;
                System.arraycopy(path, 0, best, 0, BOATS);
                return;
            }
            for (int b = 0; b < lock.boats; b++) {
                if ((gone >> b & 1) == 0) {
                    int side = lock.mark(b, SIDE);
                    int arrives = lock.mark(b, ARRIVES);
                    int from = Math.max(arrives, ready == side ? free : free + lock.rules[TURN]);
                    int more = (from - arrives) * lock.mark(b, WORTH);
                    path[depth] = b;
                    seek(lock, depth + 1, gone | 1 << b, from + lock.rules[PASS], otherSide(side), soFar + more);
                }
            }
        }
    }

    /** The tape, and the token that was read of it last. */
    private static final class Tape {
        static final int BYTES = 160;
        private static final int FIGURES = 2;
        static final int NAME = 0, NUMBER = 1, STOP = 2, END = 3, NO_TOKEN = 4;

        private final byte[] bytes;
        int length;
        private int at;
        int kind;
        int start;
        int number;

        Tape() {
            bytes = new byte[BYTES];
        }

        boolean append(int c) {
            if (length >= BYTES) {
                return false;
            }
            bytes[length] = (byte) c;
            length++;
            return true;
        }

        void rewind() {
            at = 0;
        }

        void next() {
            while (at < length && bytes[at] == ' ') {
                at++;
            }
            start = at;
            number = 0;
            kind = at < length ? kindOf(bytes[at]) : END;
            if (kind != END) {
                at++;
            }
            if (kind == NAME || kind == NUMBER) {
                while (at < length && kindOf(bytes[at]) == kind) {
                    at++;
                }
            }
            if (kind == NUMBER) {
                valueNumber();
            }
        }

        private static int kindOf(byte c) {
            if (c >= 'a' && c <= 'z') {
                return NAME;
            }
            if (c >= '0' && c <= '9') {
                return NUMBER;
            }
            return c == ';' ? STOP : NO_TOKEN;
        }

        private void valueNumber() {
            if (at - start > FIGURES) {
                kind = NO_TOKEN;
                return;
            }
            for (int i = start; i < at; i++) {
                number = number * 10 + bytes[i] - '0';
            }
        }

        boolean isName(String name) {
            if (kind != NAME || at - start != name.length()) {
                return false;
            }
            for (int i = 0; i < name.length(); i++) {
                if (bytes[start + i] != name.charAt(i)) {
                    return false;
                }
            }
            return true;
        }
    }

    /** Reads the tape line by line into a lock of its own, up to the first fault. */
    private static final class Teller {
        private static final int NO_TOKEN = 1, OUT_OF_PLACE = 2, OUT_OF_BOUNDS = 3, TWICE = 4, TOO_MANY = 5,
                NO_SUCH_BOAT = 6;
        private static final int LOCK_LINE = 1, LAW_LINE = 2, POST_LINE = 4, HAND_LINE = 8;

        final Lock told;
        int fault;
        private final Tape tape;
        private int place;
        private int linesMet;

        Teller(Tape tape) {
            this.tape = tape;
            told = new Lock();
        }

        /** How many lines, or -10 less the place of the fault. */
        int tell() {
            told.clear();
            tape.rewind();
            fault = 0;
            linesMet = 0;
            int lines = 0;
            tape.next();
            while (lines < Tape.BYTES && tape.kind != Tape.END && takeLine()) {
                lines++;
                tape.next();
            }
            if (fault == 0 && told.liars >> told.boats != 0) {
                blame(NO_SUCH_BOAT, tape.length);
            }
            return fault == 0 ? lines : -10 - place;
        }

        private boolean takeLine() {
            if (tape.isName("above")) {
                return takeBoat(ABOVE) && takeStop();
            }
            if (tape.isName("below")) {
                return takeBoat(BELOW) && takeStop();
            }
            if (tape.isName("liar")) {
                return takeLiar() && takeStop();
            }
            if (tape.isName("lock")) {
                return isFirst(LOCK_LINE) && takeRules(PASS, READY) && takeStop();
            }
            if (tape.isName("law")) {
                return isFirst(LAW_LINE) && takeLaw() && takeStop();
            }
            if (tape.isName("post")) {
                return isFirst(POST_LINE) && takeRules(POST, POST) && takeStop();
            }
            if (tape.isName("hand")) {
                told.rules[HAND] = 1;
                return isFirst(HAND_LINE) && takeStop();
            }
            return blameToken(OUT_OF_PLACE);
        }

        private boolean isFirst(int line) {
            if ((linesMet & line) != 0) {
                return blameToken(TWICE);
            }
            linesMet |= line;
            return true;
        }

        private boolean takeBoat(int side) {
            int b = told.boats;
            if (b >= BOATS) {
                return blameToken(TOO_MANY);
            }
            told.setMark(b, SIDE, side);
            told.boats++;
            if (!takeCargo(b)) {
                return false;
            }
            for (int what = ARRIVES; what <= BOY; what++) {
                if (!takeNumber(0, MARK_MOST[what])) {
                    return false;
                }
                told.setMark(b, what, tape.number);
            }
            return true;
        }

        private boolean takeCargo(int b) {
            tape.next();
            int cargo = tape.isName("mail") ? 0 : tape.isName("fish") ? 1 : tape.isName("beer") ? 2
                    : tape.isName("coal") ? 3 : NONE;
            if (cargo == NONE) {
                return blameToken(OUT_OF_PLACE);
            }
            told.setMark(b, CARGO, cargo);
            return true;
        }

        private boolean takeRules(int first, int last) {
            for (int what = first; what <= last; what++) {
                if (!takeNumber(RULE_LEAST[what], RULE_MOST[what])) {
                    return false;
                }
                told.rules[what] = tape.number;
            }
            return true;
        }

        private boolean takeLaw() {
            tape.next();
            int law = tape.isName("gate") ? 0 : tape.isName("ready") ? BY_READY : tape.isName("twos") ? BY_TWOS
                    : tape.isName("cargo") ? BY_CARGO : tape.isName("queue") ? BY_QUEUE : NONE;
            if (law == NONE) {
                return blameToken(OUT_OF_PLACE);
            }
            told.rules[LAW] = law;
            return true;
        }

        private boolean takeLiar() {
            if (!takeNumber(0, BOATS - 1)) {
                return false;
            }
            if ((told.liars >> tape.number & 1) == 1) {
                return blameToken(TWICE);
            }
            told.liars |= 1 << tape.number;
            return true;
        }

        private boolean takeNumber(int least, int most) {
            tape.next();
            if (tape.kind != Tape.NUMBER) {
                return blameToken(OUT_OF_PLACE);
            }
            return within(tape.number, least, most) || blameToken(OUT_OF_BOUNDS);
        }

        private boolean takeStop() {
            tape.next();
            return tape.kind == Tape.STOP || blameToken(OUT_OF_PLACE);
        }

        private boolean blameToken(int why) {
            return blame(tape.kind == Tape.NO_TOKEN ? NO_TOKEN : why, tape.start);
        }

        /** Always false, so that a line ends where its fault is. */
        private boolean blame(int why, int where) {
            fault = why;
            place = where;
            return false;
        }
    }

    /** A row of cells of a lane, or nothing. */
    private static final class Sheet {
        static final int CELLS = 40;
        private static final int BYTE_LANE = 0, SHORT_LANE = 1, LANES = 3, NOTHING = -1;

        private final int[] cells;
        private int lane;
        int size;

        Sheet() {
            cells = new int[CELLS];
            size = NOTHING;
        }

        static boolean isLane(int lane) {
            return within(lane, 0, LANES - 1);
        }

        boolean isNothing() {
            return size == NOTHING;
        }

        void renew(int ofLane, int n) {
            lane = ofLane;
            size = n;
            Arrays.fill(cells, 0);
        }

        void put(int i, int v) {
            cells[i] = lane == BYTE_LANE ? (byte) v : lane == SHORT_LANE ? (short) v : v;
        }

        int cell(int i) {
            return cells[i];
        }

        int faultAt(int i) {
            if (isNothing()) {
                return NULL_FAULT;
            }
            return within(i, 0, size - 1) ? 0 : INDEX_FAULT;
        }

        /** Of two cells, taken as of a lane; the machine casts nothing to any lane, so that is no CAST. */
        int faultOfPair(int asLane, int i) {
            if (!isNothing() && lane != asLane) {
                return CAST_FAULT;
            }
            int fault = faultAt(i);
            return fault != 0 ? fault : faultAt(i + 1);
        }
    }
}
