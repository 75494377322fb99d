import java.lang.management.ManagementFactory;

/** All calls of a run live in one room: an object is made once, and no call makes another one. */
public final class RoomTest {
    private static final int OBJECTS = 1000;
    /** The fields and elements of one object take some 4,600 bytes. */
    private static final long BYTES_OF_ONE = 10_000;
    /** What the machine itself may make while it measures; one small object a round would be 16,000 bytes. */
    private static final long SLACK = 12_000;
    private static final String TEXT = "lock9 9 1;above mail0 9 1;below fish1 8 2;above beer2 7 3;below coal3 6 4;"
            + "above mail4 5 5;below fish5 4 6;law cargo;hand;liar1;liar3;liar4;";
    private static final Due due = new Due();

    public static void main(String[] args) {
        com.sun.management.ThreadMXBean room = (com.sun.management.ThreadMXBean) ManagementFactory.getThreadMXBean();
        if (room.isThreadAllocatedMemorySupported() && room.isThreadAllocatedMemoryEnabled()) {
            long id = Thread.currentThread().getId();
            LockTurns[] made = new LockTurns[OBJECTS];
            everyCall(new LockTurns());
            long before = room.getThreadAllocatedBytes(id);
            for (int i = 0; i < OBJECTS; i++) {
                made[i] = new LockTurns();
            }
            long between = room.getThreadAllocatedBytes(id);
            for (int i = 0; i < OBJECTS; i++) {
                everyCall(made[i]);
            }
            long behind = room.getThreadAllocatedBytes(id);
            System.out.println("one object takes " + (between - before) / OBJECTS + " bytes, all calls of " + OBJECTS
                    + " objects " + (behind - between));
            due.is("an object is small", 1, between - before <= BYTES_OF_ONE * OBJECTS ? 1 : 0);
            due.is("no call makes anything", 1, behind - between <= SLACK ? 1 : 0);
        }
        due.end();
    }

    private static long everyCall(LockTurns x) {
        for (int i = 0; i < TEXT.length(); i++) {
            x.feed(TEXT.charAt(i));
        }
        long sum = x.text() + x.fault() + x.calm() + x.torn() + x.end(0);
        for (int what = -1; what < 8; what++) {
            sum += x.rule(what) + x.day(what) + x.table(3, what) + x.best(what) + x.order(what + 10) + x.rests(what)
                    + x.post(what) + x.fits(what) + x.drift(what, 20, 0) + x.count(what) + x.back(what) + x.keep(what);
            sum += x.see(what, what) + x.forget(what) + x.sheet(what, 1, 40) + x.lay(what, 1, 1) + x.read(what, 1, 0, 20);
        }
        for (int b = -1; b < 7; b++) {
            sum += x.boat(b, 6) + x.alter(b, 2, 0) + x.lie(b, true) + x.cross(b) + x.passes(b) + x.through(b) + x.stood(b)
                    + x.firsts(b) + x.gain(b) + x.boy(b, 0) + x.late(b) + x.deal(b, 0, 2) + x.set(b, 1);
            sum += x.mean(3, b, 0) + x.luck(3, b, 0, 0);
        }
        return sum;
    }
}
