import java.lang.management.ManagementFactory;

/**
 * All calls of one run live in one room of some 600,000 objects and arrays: planners are small, and
 * no call makes anything that is left behind.
 */
public final class RoomTest {
    private static final int CALLS = 100;
    /** The least that one object takes is 16 bytes, so that an object a call would be seen. */
    private static final long LITTLE = CALLS * 8L;
    private static final com.sun.management.ThreadMXBean THREADS =
            (com.sun.management.ThreadMXBean) ManagementFactory.getThreadMXBean();

    private static final Check check = new Check();

    public static void main(String[] args) {
        changes();
        refusals();
        paths();
        searches();
        questions();
        planner();
        check.end();
    }

    private static long bytes() {
        return THREADS.getCurrentThreadAllocatedBytes();
    }

    /** Makes a call again and again; the first planner is only for what the machine itself loads. */
    private static void makesNothing(String what, Twins.Calls calls, Twins.Call call) {
        repeat(Twins.made(calls), call);
        ClockPlanner x = new ClockPlanner();
        calls.on(x);
        long before = bytes();
        repeat(x, call);
        long made = bytes() - before;
        check.isTrue(what + " makes nothing, and made " + made + " bytes in " + CALLS + " calls", made < LITTLE);
    }

    private static void repeat(ClockPlanner x, Twins.Call call) {
        for (int i = 0; i < CALLS; i++) {
            call.on(x);
        }
    }

    private static void changes() {
        makesNothing("source", Plans::rich, x -> x.source(1200));
        makesNothing("add", Plans::rich, x -> x.add(0, 1, 2));
        makesNothing("leaf", Plans::rich, x -> x.leaf(0, 0, 0, 9, 1));
        makesNothing("set", Plans::rich, x -> x.set(1, 0, 4));
        makesNothing("tune", Plans::rich, x -> x.tune(3, 2));
        makesNothing("request", Plans::rich, x -> x.request(5, 1));
        makesNothing("limit", Plans::rich, x -> x.limit(1, 1));
        makesNothing("remove", Plans::rich, x -> x.remove(x.add(0, 4, 1)));
        makesNothing("mend", Plans::rich, x -> x.mend(1));
        makesNothing("shed", Plans::rich, x -> x.shed(0));
        makesNothing("back", Plans::rich, x -> x.limit(0, 3) + x.back());
        makesNothing("image and undo", Plans::rich, x -> x.image() + x.undo());
    }

    private static void refusals() {
        makesNothing("source that is refused", Plans::rich, x -> x.source(1));
        makesNothing("add that is refused", Plans::rich, x -> x.add(99, 1, 1));
        makesNothing("tune that is refused", Plans::rich, x -> x.tune(1, 99));
        makesNothing("shed that is refused", RoomTest::heavy, x -> x.shed(0));
    }

    private static void paths() {
        makesNothing("a path", Plans::rich, x -> x.feed(5, '0', '/', '2', '*', '3') + x.lay());
        makesNothing("a wrong text", Plans::rich, x -> x.feed(5, '0', '/', '2', '*', 'x') + x.lay());
        makesNothing("a path that is refused", Plans::rich, x -> x.feed(5, '6', '/', '2', '*', '3') + x.lay());
        makesNothing("a tape that is full", Plans::rich, x -> x.feed(5, '0', '/', '2', '*', '3'));
    }

    /** Ten leaves that request below a gate each, so that there are the most sets to choose from. */
    private static void heavy(ClockPlanner x) {
        x.set(0, 1, 1);
        for (int gate = 1; gate <= 10; gate++) {
            x.add(0, 3, 2);
            x.set(gate, 1, 1);
        }
        for (int gate = 1; gate <= 10; gate++) {
            x.leaf(gate, 0, 0, 0, gate % 9 + 1);
        }
    }

    private static void searches() {
        makesNothing("wouldShed", RoomTest::heavy, x -> x.wouldShed(5000));
        makesNothing("wouldShed without a set", RoomTest::heavy, x -> x.wouldShed(0));
        makesNothing("a way", Plans::rich, x -> x.way(1, 9999, 3));
        makesNothing("ranked", RoomTest::heavy, x -> x.ranked(20));
    }

    private static void questions() {
        makesNothing("rate and again", Plans::rich, x -> x.rate(4, 1) + x.again(4, 1));
        makesNothing("node", Plans::rich, x -> x.node(3, 10));
        makesNothing("ofLeaf and ofGroup", Plans::rich, x -> x.ofLeaf(5, 5) + x.ofGroup(1, 4));
        makesNothing("power and account", Plans::rich, x -> x.power(-1) + x.account(11));
        makesNothing("reason and count", Plans::rich, x -> x.reason() + x.count(2));
    }

    /** 7.3 million fields and elements for 600,000 objects: a planner keeps far away from both. */
    private static void planner() {
        new ClockPlanner();
        long before = bytes();
        ClockPlanner x = new ClockPlanner();
        long made = bytes() - before;
        check.due("a new planner", x.count(0), 1);
        check.isTrue("a planner is small, and took " + made + " bytes", made < 100000);
    }
}
