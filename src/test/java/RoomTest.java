import java.lang.management.ManagementFactory;

/**
 * All calls of one run live in one room of some 7.3 million fields and elements: an object and the 512 dearest calls on
 * it have to stay far below that, and 512 objects within it. What is made is counted in bytes, of which most elements
 * have 4.
 */
public final class RoomTest {
    private static final long MOST_BYTES = 4 * 7_300_000L;
    private static final int MOST_CALLS = 512;

    public static void main(String[] args) {
        // both once ahead, so that what the machine makes for itself is made
        run(false);
        run(true);
        long dear = made(true);
        long many = made(false);
        long objects = madeByObjects();
        System.out.println("RoomTest: " + dear + " bytes by dear calls, " + many + " by all of them, " + objects
            + " by " + MOST_CALLS + " objects");
        if (dear > MOST_BYTES || many > MOST_BYTES || objects > MOST_BYTES) {
            System.exit(1);
        }
    }

    private static long made(boolean dear) {
        long before = madeTillNow();
        run(dear);
        return madeTillNow() - before;
    }

    /** The constructor is the one call that makes anything: as many objects as a run has calls fit as well. */
    private static long madeByObjects() {
        SkinShow[] all = new SkinShow[MOST_CALLS];
        long before = madeTillNow();
        for (int object = 0; object < MOST_CALLS; object++) {
            all[object] = new SkinShow();
        }
        return madeTillNow() - before;
    }

    private static long madeTillNow() {
        com.sun.management.ThreadMXBean threads = (com.sun.management.ThreadMXBean) ManagementFactory.getThreadMXBean();
        return threads.getThreadAllocatedBytes(Thread.currentThread().getId());
    }

    private static int run(boolean dear) {
        SkinShow s = new SkinShow();
        for (int place = 0; place < 48; place++) {
            s.part(place % 5, place, place % 10, 9, place % 10);
        }
        for (int nerve = 0; nerve < 10; nerve++) {
            s.nerve(nerve, 0, nerve % 6);
        }
        int sum = 0;
        for (int call = 58; call < MOST_CALLS; call++) {
            sum += dear ? s.hide(call % 4, 543, call % 2) : one(s, call);
        }
        return sum;
    }

    /** One call of each kind in turn. */
    private static int one(SkinShow s, int call) {
        switch (call % 27) {
            case 0: return s.misses(call % 4, 210, 1);
            case 1: return s.hide(call % 4, 210, 1);
            case 2: return s.beast(0, call % 5);
            case 3: return s.seen(0, call % 48);
            case 4: return s.feed(0x65796520, 0x642b672a, 0x28632d6d);
            case 5: return s.feed(0x29202020, 0x20202020, 0x20202020);
            case 6: return s.text(0);
            case 7: return s.keep();
            case 8: return s.tick(60);
            case 9: return s.back();
            case 10: return s.tell(call);
            case 11: return s.check(30);
            case 12: return s.change();
            case 13: return s.still();
            case 14: return s.line(call % 24, call % 2, 24);
            case 15: return s.copy(call % 24, 0, call % 24, 1, 23);
            case 16: return s.ask(call % 4, call % 4);
            case 17: return s.learn(call % 4, call % 10);
            case 18: return s.fewest();
            case 19: return s.watch(call);
            case 20: return s.parts();
            case 21: return s.kinds(-1);
            case 22: return s.habit(call % 4);
            case 23: return s.gives(6, 1, 2, 3, 4);
            case 24: return s.half(call % 4, call % 6);
            case 25: return s.alike(call % 29, 3);
            default: return s.rest();
        }
    }
}
