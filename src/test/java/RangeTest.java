/**
 * The parameter lines of each promise: the last number that is allowed and the first that is not,
 * on both sides, and that a call with a number out of range changes nothing.
 */
public final class RangeTest {
    private static final int LOW = Integer.MIN_VALUE;
    private static final int TOP = Integer.MAX_VALUE;
    private static final int NONE = -1, BAD = -2, FULL = -4;

    private static final Check check = new Check();
    private static final Twins twins = new Twins(check);

    interface Try {
        long on(ClockPlanner x, int value);
    }

    public static void main(String[] args) {
        source();
        add();
        leaf();
        setting();
        tune();
        request();
        limit();
        remove();
        groupsAndBudgets();
        bytes();
        lengths();
        rates();
        nodes();
        leaves();
        groups();
        powers();
        ways();
        places();
        check.end();
    }

    private static int[] outside(int low, int high) {
        return new int[] {low - 1, high + 1, low - 256, high + 256, LOW, TOP, LOW + 1, TOP - 1};
    }

    private static int[] within(int low, int high) {
        int step = high > low ? 1 : 0;
        return new int[] {low, low + step, high - step, high};
    }

    private static void taken(String call, Try test, int low, int high) {
        for (int value : within(low, high)) {
            long answer = test.on(Twins.made(Plans::richWithTape), value);
            check.isTrue(call + " with " + value + " is taken, not " + answer, answer >= 0 || answer == -5);
        }
    }

    /** Numbers outside low to high answer the error, all others do not. */
    private static void range(String call, Try test, int low, int high, int error) {
        taken(call, test, low, high);
        for (int value : outside(low, high)) {
            twins.error(call + " with " + value, Plans::richWithTape, x -> test.on(x, value), error);
        }
    }

    /** Numbers outside low to high are refused for a reason, all others are not. */
    private static void refused(String call, Try test, int low, int high, int reason) {
        taken(call, test, low, high);
        for (int value : outside(low, high)) {
            twins.refused(call + " with " + value, Plans::richWithTape, x -> test.on(x, value), reason);
        }
    }

    private static void source() {
        check.says("The rate of the source is an integer from 1 to 1000000.");
        refused("source", (x, v) -> x.source(v), 1, 1000000, 4);
    }

    private static void add() {
        check.says("the kind, 1 to 4");
        range("add of a kind", (x, v) -> x.add(0, v, 1), 1, 4, NONE);
        check.says("of a multiplier times its number, from 1 to 9 each");
        refused("add of a divider", (x, v) -> x.add(0, 1, v), 1, 9, 4);
        refused("add of a multiplier", (x, v) -> x.add(0, 2, v), 1, 9, 4);
        check.says("the rule of a gate");
        refused("add of a gate", (x, v) -> x.add(0, 3, v), 0, 4, 4);
        check.says("or the delay of a buffer");
        refused("add of a buffer", (x, v) -> x.add(0, 4, v), 0, 99, 4);
        check.says("1 there is no such node, or it is a leaf where a parent is needed");
        // 5 and 6 are leaves.
        refused("add to a parent", (x, v) -> x.add(v == 6 ? 7 : v, 1, 2), 0, 7, 1);
        for (int leaf = 5; leaf <= 6; leaf++) {
            int parent = leaf;
            twins.refused("add to a leaf", Plans::richWithTape, x -> x.add(parent, 1, 2), 1);
            twins.refused("leaf to a leaf", Plans::richWithTape, x -> x.leaf(parent, 0, 0, 0, 1), 1);
        }
    }

    private static void leaf() {
        check.says("1 there is no such node, or it is a leaf where a parent is needed");
        refused("leaf to a parent", (x, v) -> x.leaf(v == 6 ? 7 : v, 0, 0, 0, 1), 0, 7, 1);
        check.says("A leaf has a group from 0 to 3");
        range("leaf of a group", (x, v) -> x.leaf(0, v, 0, 0, 1), 0, 3, NONE);
        check.says("bounds, which are integers from 0 to 4000000");
        refused("leaf with a low bound", (x, v) -> x.leaf(0, 0, v, 4000000, 1), 0, 4000000, 4);
        refused("leaf with a high bound", (x, v) -> x.leaf(0, 0, 0, v, 1), 0, 4000000, 4);
        refused("leaf with both bounds", (x, v) -> x.leaf(0, 0, v, v, 1), 0, 4000000, 4);
        check.says("the low one at most the high one");
        refused("leaf with a high bound of 500", (x, v) -> x.leaf(0, 0, v, 500, 1), 0, 500, 4);
        refused("leaf with a low bound of 500", (x, v) -> x.leaf(0, 0, 500, v, 1), 500, 4000000, 4);
        check.says("a priority from 1 to 9");
        refused("leaf with a priority", (x, v) -> x.leaf(0, 0, 0, 0, v), 1, 9, 4);
    }

    private static void setting() {
        check.says("A node has a delay from 0 to 99 and a load from 0 to 9");
        for (int node = 0; node < 8; node++) {
            int n = node;
            refused("set of the delay of " + n, (x, v) -> x.set(n, 0, v), 0, 99, 4);
            refused("set of the load of " + n, (x, v) -> x.set(n, 1, v), 0, 9, 4);
        }
        check.says("0 the delay; 1 the load");
        range("set of what", (x, v) -> x.set(1, v, 0), 0, 1, NONE);
        check.says("STATE with the reason 1 (the node may be a leaf) or 4.");
        refused("set of the delay of a node", (x, v) -> x.set(v, 0, 1), 0, 7, 1);
        refused("set of the load of a node", (x, v) -> x.set(v, 1, 1), 0, 7, 1);
    }

    private static void tune() {
        check.says("Sets the number of a divider or multiplier, or the rule of a gate.");
        refused("tune of a divider", (x, v) -> x.tune(1, v), 1, 9, 4);
        refused("tune of a multiplier", (x, v) -> x.tune(2, v), 1, 9, 4);
        refused("tune of a gate", (x, v) -> x.tune(3, v), 0, 4, 4);
        check.says("NONE if the node is none of these");
        for (int node : new int[] {0, 4, 5, 6, 7}) {
            for (int number : new int[] {LOW, -1, 0, 1, 9, 10, 100, TOP}) {
                twins.error("tune(" + node + ", " + number + ")", Plans::richWithTape,
                        x -> x.tune(node, number), NONE);
            }
        }
        check.says("tune() of a number that no node has is refused with the reason 1.");
        for (int node : new int[] {LOW, -1, 8, 9, 23, 24, TOP}) {
            for (int number : new int[] {-1, 1, 10}) {
                twins.refused("tune(" + node + ", " + number + ")", Plans::richWithTape,
                        x -> x.tune(node, number), 1);
            }
        }
    }

    private static void request() {
        check.says("1 if it requests, 0 if not");
        range("request of the first leaf", (x, v) -> x.request(5, v), 0, 1, BAD);
        range("request of the second leaf", (x, v) -> x.request(6, v), 0, 1, BAD);
        check.says("NONE if there is no such node or it is no leaf");
        range("request of a node", (x, v) -> x.request(v, 1), 5, 6, NONE);
        for (int node : new int[] {0, 1, 2, 3, 4, 8}) {
            twins.error("request of " + node, Plans::richWithTape, x -> x.request(node, 1), NONE);
        }
    }

    private static void limit() {
        check.says("Each group has a limit from 0 to 999");
        for (int group = 0; group < 4; group++) {
            int g = group;
            range("limit of " + g, (x, v) -> x.limit(g, v), 0, 999, BAD);
        }
        check.says("NONE if there is no such group");
        range("limit of a group", (x, v) -> x.limit(v, 5), 0, 3, NONE);
    }

    private static void remove() {
        check.says("NONE if it is the source; STATE with the reason 1 (the node may be a leaf) or 7.");
        taken("remove", (x, v) -> x.remove(v), 5, 7);
        twins.error("remove(0)", Plans::richWithTape, x -> x.remove(0), NONE);
        for (int node : new int[] {LOW, -1, 8, 9, 23, 24, TOP}) {
            twins.refused("remove(" + node + ")", Plans::richWithTape, x -> x.remove(node), 1);
        }
        check.says("7 the node has children");
        for (int node : new int[] {1, 2, 3, 4}) {
            twins.refused("remove(" + node + ")", Plans::richWithTape, x -> x.remove(node), 7);
        }
    }

    private static void groupsAndBudgets() {
        check.says("Returns the sum by which pads are increased; NONE if there is no such group");
        range("mend", (x, v) -> x.mend(v), 0, 3, NONE);
        check.says("the budget, 0 to 2000000000");
        range("shed", (x, v) -> x.shed(v), 0, 2000000000, BAD);
        range("wouldShed", (x, v) -> x.wouldShed(v), 0, 2000000000, BAD);
    }

    private static void bytes() {
        check.says("the number of bytes, 1 to 5");
        range("feed of n", (x, v) -> x.feed(v, 48, 48, 48, 48, 48), 1, 5, BAD);
        check.says("a byte, 0 to 127");
        for (int b = -3; b <= 131; b++) {
            ClockPlanner x = new ClockPlanner();
            check.due("feed of " + b, x.feed(1, b, 0, 0, 0, 0), b < 0 || b > 127 ? BAD : 1);
        }
        check.says("BAD if n or any of the bytes is out of range, also of those that are not appended");
        for (int count = 1; count <= 5; count++) {
            int n = count;
            range("feed of " + n + ", a", (x, v) -> x.feed(n, v, 48, 48, 48, 48), 0, 127, BAD);
            range("feed of " + n + ", b", (x, v) -> x.feed(n, 48, v, 48, 48, 48), 0, 127, BAD);
            range("feed of " + n + ", c", (x, v) -> x.feed(n, 48, 48, v, 48, 48), 0, 127, BAD);
            range("feed of " + n + ", d", (x, v) -> x.feed(n, 48, 48, 48, v, 48), 0, 127, BAD);
            range("feed of " + n + ", e", (x, v) -> x.feed(n, 48, 48, 48, 48, v), 0, 127, BAD);
        }
    }

    private static void filled(ClockPlanner x, int length) {
        for (int i = 0; i < length; i++) {
            x.feed(1, "0/1*1g0+1*1".charAt(i % 11), 0, 0, 0, 0);
        }
    }

    private static void lengths() {
        check.says("FULL if the tape would be longer than 40 bytes, and then none is appended");
        for (int length = 0; length <= 40; length++) {
            for (int n = 1; n <= 5; n++) {
                int before = length;
                int more = n;
                ClockPlanner x = Twins.made(y -> filled(y, before));
                int due = before + more <= 40 ? before + more : FULL;
                check.due("feed of " + n + " behind " + length, x.feed(n, 48, 49, 50, 51, 52), due);
                check.due("count(1)", x.count(1), Math.max(before, due));
            }
        }
        for (int n = 1; n <= 5; n++) {
            int more = n;
            twins.error("feed of " + n, x -> filled(x, 41 - more), x -> x.feed(more, 48, 48, 48, 48, 48), FULL);
        }
    }

    private static void rates() {
        check.says("0 for the numerator, 1 for the denominator");
        range("rate, part", (x, v) -> x.rate(2, v), 0, 1, NONE);
        range("again, part", (x, v) -> x.again(2, v), 0, 1, NONE);
        check.says("Returns the part; NONE if there is no such node or part.");
        range("rate of a node", (x, v) -> x.rate(v, 0), 0, 7, NONE);
        range("rate of a node", (x, v) -> x.rate(v, 1), 0, 7, NONE);
        range("again of a node", (x, v) -> x.again(v, 0), 0, 7, NONE);
        range("again of a node", (x, v) -> x.again(v, 1), 0, 7, NONE);
    }

    private static void nodes() {
        check.says("Returns the number; NONE if there is no such node or what is invalid.");
        for (int node = 0; node < 8; node++) {
            int n = node;
            range("node " + n + ", what", (x, v) -> x.node(n, v), 0, 10, NONE);
        }
        for (int selector = 0; selector <= 10; selector++) {
            int what = selector;
            range("node of a number, " + what, (x, v) -> x.node(v, what), 0, 7, NONE);
        }
    }

    private static void leaves() {
        check.says("NONE if there is no such node, it is no leaf or what is invalid");
        range("ofLeaf(5, what)", (x, v) -> x.ofLeaf(5, v), 0, 5, NONE);
        range("ofLeaf(6, what)", (x, v) -> x.ofLeaf(6, v), 0, 5, NONE);
        for (int selector = 0; selector <= 5; selector++) {
            int what = selector;
            range("ofLeaf of a node, " + what, (x, v) -> x.ofLeaf(v, what), 5, 6, NONE);
            for (int node : new int[] {0, 1, 2, 3, 4, 8}) {
                twins.error("ofLeaf(" + node + ", " + what + ")", Plans::richWithTape,
                        x -> x.ofLeaf(node, what), NONE);
            }
        }
    }

    private static void groups() {
        check.says("Returns the number; NONE if there is no such group or what is invalid.");
        for (int group = 0; group < 4; group++) {
            int g = group;
            range("ofGroup " + g + ", what", (x, v) -> x.ofGroup(g, v), 0, 6, NONE);
        }
        for (int selector = 0; selector <= 6; selector++) {
            int what = selector;
            range("ofGroup of a group, " + what, (x, v) -> x.ofGroup(v, what), 0, 3, NONE);
        }
    }

    private static void powers() {
        check.says("the node, or -1 for all");
        range("power", (x, v) -> x.power(v), -1, 7, NONE);
    }

    private static void ways() {
        check.says("NONE if what is invalid; BAD if another number is out of range");
        range("way, what", (x, v) -> x.way(400, 1, v), 0, 3, NONE);
        for (int selector = 0; selector <= 3; selector++) {
            int what = selector;
            check.says("the numerator, 1 to 4000000");
            range("way, above", (x, v) -> x.way(v, 1, what), 1, 4000000, BAD);
            range("way, above", (x, v) -> x.way(v, 9999, what), 1, 4000000, BAD);
            check.says("the denominator, 1 to 9999");
            range("way, below", (x, v) -> x.way(1, v, what), 1, 9999, BAD);
            range("way, below", (x, v) -> x.way(4000000, v, what), 1, 9999, BAD);
        }
    }

    private static void places() {
        check.says("Returns the node; NONE if there is no such place.");
        range("ranked", (x, v) -> x.ranked(v), 0, 7, NONE);
        check.says("Returns the account; NONE if what is invalid.");
        range("account", (x, v) -> x.account(v), 0, 11, NONE);
        check.says("Returns the count; NONE if what is invalid.");
        range("count", (x, v) -> x.count(v), 0, 2, NONE);
    }
}
