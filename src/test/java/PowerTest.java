/** The paragraph "Power", with shed and wouldShed: a test for each sentence that names a boundary. */
public final class PowerTest {
    private static final Check check = new Check();
    private static final Twins twins = new Twins(check);

    public static void main(String[] args) {
        roundedDown();
        loadsAtTheEnds();
        whatDoesNotRun();
        sumOverAll();
        greatestPower();
        budgetJustEnough();
        leavesThatRequest();
        leastPriorities();
        fewestLeaves();
        lowestBits();
        gatesOfEachRule();
        emptySet();
        allLeaves();
        noSetIsEnough();
        budgetsAtTheEnds();
        nothingChanges();
        theyDoNotRequestThen();
        check.end();
    }

    /** Adds a gate below the source with a load, and a leaf below it; answers the leaf. */
    private static int branch(ClockPlanner x, int load, int priority) {
        int gate = x.add(0, 3, 2);
        x.set(gate, 1, load);
        return x.leaf(gate, 0, 0, 0, priority);
    }

    private static void roundedDown() {
        check.says("The power of a node that runs is its rate times its load, rounded down");
        ClockPlanner x = new ClockPlanner();
        x.add(0, 1, 3);
        x.add(0, 1, 9);
        for (int load = 0; load <= 9; load++) {
            x.set(1, 1, load);
            x.set(2, 1, load);
            check.due("1000/3 times " + load, x.power(1), 1000 * load / 3);
            check.due("1000/9 times " + load, x.power(2), 1000 * load / 9);
        }
        x.source(1);
        x.set(1, 1, 2);
        check.due("2/3", x.power(1), 0);
        x.set(1, 1, 3);
        check.due("3/3", x.power(1), 1);
        x.set(2, 1, 8);
        check.due("8/9", x.power(2), 0);
    }

    private static void loadsAtTheEnds() {
        check.says("The power of a node that runs is its rate times its load, rounded down");
        ClockPlanner x = new ClockPlanner();
        x.source(1000000);
        x.add(0, 2, 4);
        check.due("without a load", x.power(1), 0);
        x.set(1, 1, 9);
        check.due("the greatest power of a node", x.power(1), 36000000);
        x.set(1, 1, 0);
        check.due("without a load again", x.power(1), 0);
    }

    private static void whatDoesNotRun() {
        check.says("of others it is 0");
        ClockPlanner x = Plans.gated(2, 1);
        for (int n = 0; n < 3; n++) {
            x.set(n, 1, 1 + n);
        }
        check.due("the source", x.power(0), 1000);
        check.due("a gate that is open", x.power(1), 2000);
        check.due("a leaf", x.power(2), 3000);
        check.due("all", x.power(-1), 6000);
        x.request(2, 0);
        check.due("the source", x.power(0), 1000);
        check.due("a gate that is not open", x.power(1), 0);
        check.due("a leaf", x.power(2), 0);
        check.due("all", x.power(-1), 1000);
        x.leaf(0, 0, 0, 0, 1);
        x.set(3, 1, 4);
        x.request(3, 0);
        check.due("a leaf that runs and does not request", x.power(3), 4000);
    }

    private static void sumOverAll() {
        check.says("The power of all is the sum over all nodes.");
        ClockPlanner x = new ClockPlanner();
        for (int n = 1; n <= 3; n++) {
            x.add(0, 1, 3);
            x.set(n, 1, 2);
        }
        check.due("each of them is rounded down", x.power(-1), 3 * 666);
        x.set(0, 1, 1);
        check.due("with the source", x.power(-1), 3 * 666 + 1000);
        check.due("no node", x.power(-2), -1);
        check.due("no node", x.power(4), -1);
    }

    private static void greatestPower() {
        check.says("The power of all is the sum over all nodes.");
        ClockPlanner x = new ClockPlanner();
        x.source(1000000);
        x.set(0, 1, 9);
        x.add(0, 2, 4);
        x.set(1, 1, 9);
        for (int n = 2; n < 24; n++) {
            x.add(1, 4, 0);
            x.set(n, 1, 9);
        }
        check.due("power(-1)", x.power(-1), 9000000 + 23 * 36000000L);
        check.due("just enough", x.wouldShed(837000000), 0);
        check.due("one less", x.wouldShed(836999999), -5);
    }

    private static void budgetJustEnough() {
        check.says("so that, if they did not request, the power of all would be at most the budget");
        ClockPlanner x = new ClockPlanner();
        x.set(0, 1, 1);
        int leaf = branch(x, 3, 5);
        check.due("just what there is", x.wouldShed(4000), 0);
        check.due("one less", x.wouldShed(3999), 1 << leaf);
        check.due("just what is left", x.wouldShed(1000), 1 << leaf);
        check.due("one less", x.wouldShed(999), -5);
        check.due("shed of what there is", x.shed(4000), 0);
        check.refused("shed of less than is left", x, x.shed(999), 9);
        check.due("shed of just what is left", x.shed(1000), 1);
        check.due("power", x.power(-1), 1000);
        check.due("shed once more", x.shed(1000), 0);
    }

    private static void leavesThatRequest() {
        check.says("Shedding for a budget means to choose a set of leaves that request");
        ClockPlanner x = Plans.gated(2, 3);
        x.set(1, 1, 1);
        x.request(3, 0);
        check.due("two of three", x.wouldShed(0), 1 << 2 | 1 << 4);
        check.due("shed", x.shed(0), 2);
        ClockPlanner open = Plans.gated(0, 2);
        open.set(2, 1, 1);
        check.due("one that runs on all the same", open.wouldShed(0), -5);
        ClockPlanner quiet = Plans.gated(3, 2);
        quiet.set(0, 1, 1);
        quiet.request(2, 0);
        quiet.request(3, 0);
        check.due("none requests", quiet.wouldShed(1000), 0);
        check.due("none requests", quiet.wouldShed(999), -5);
    }

    private static void leastPriorities() {
        check.says("of all such sets that with the least sum of priorities");
        ClockPlanner x = new ClockPlanner();
        int one = branch(x, 4, 9);
        int two = branch(x, 2, 4);
        int three = branch(x, 2, 4);
        check.due("two of 4 before one of 9", x.wouldShed(4000), 1 << two | 1 << three);
        check.due("one of 4", x.wouldShed(6000), 1 << two);
        check.due("9 and 4", x.wouldShed(2000), 1 << one | 1 << two);
        check.due("all", x.wouldShed(1999), 1 << one | 1 << two | 1 << three);
        ClockPlanner high = new ClockPlanner();
        int first = branch(high, 1, 9);
        int last = branch(high, 1, 8);
        check.due("8 before 9, though it is higher as bits", high.wouldShed(1000), 1 << last);
        check.due("both", high.wouldShed(0), 1 << first | 1 << last);
        ClockPlanner many = new ClockPlanner();
        many.add(0, 3, 2);
        many.set(1, 1, 1);
        for (int i = 0; i < 8; i++) {
            many.leaf(1, 0, 0, 0, 1);
        }
        int nine = branch(many, 1, 9);
        check.due("eight of 1 before one of 9", many.wouldShed(1000), 0xff << 2);
        check.due("all", many.wouldShed(0), 0xff << 2 | 1 << nine);
    }

    private static void fewestLeaves() {
        check.says("of these that with the fewest leaves");
        ClockPlanner x = new ClockPlanner();
        x.add(0, 3, 2);
        x.set(1, 1, 1);
        for (int i = 0; i < 9; i++) {
            x.leaf(1, 0, 0, 0, 1);
        }
        int nine = branch(x, 1, 9);
        check.due("one of 9 before nine of 1", x.wouldShed(1000), 1 << nine);
        check.due("shed", x.shed(1000), 1);
        check.due("it does not request", x.ofLeaf(nine, 3), 0);
        ClockPlanner three = new ClockPlanner();
        three.add(0, 3, 2);
        three.set(1, 1, 1);
        three.leaf(1, 0, 0, 0, 2);
        three.leaf(1, 0, 0, 0, 2);
        three.leaf(1, 0, 0, 0, 2);
        three.add(0, 3, 2);
        three.set(5, 1, 1);
        three.leaf(5, 0, 0, 0, 3);
        three.leaf(5, 0, 0, 0, 3);
        check.due("two of 3 before three of 2", three.wouldShed(1000), 1 << 6 | 1 << 7);
    }

    private static void lowestBits() {
        check.says("of these that which is lowest as bits, where bit n stands for node n");
        ClockPlanner x = new ClockPlanner();
        int[] leaves = new int[4];
        for (int i = 0; i < 4; i++) {
            leaves[i] = branch(x, 1, 3);
        }
        check.due("one of four", x.wouldShed(3000), 1 << leaves[0]);
        check.due("two of four", x.wouldShed(2000), 1 << leaves[0] | 1 << leaves[1]);
        check.due("three of four", x.wouldShed(1000), 1 << leaves[0] | 1 << leaves[1] | 1 << leaves[2]);
        // 1 + 4 and 2 + 3 are the same sum, and the highest bit decides.
        ClockPlanner sums = new ClockPlanner();
        int one = branch(sums, 2, 1);
        int two = branch(sums, 3, 2);
        int three = branch(sums, 4, 3);
        int four = branch(sums, 5, 4);
        check.due("2 and 3 are lower as bits than 1 and 4", sums.wouldShed(7000), 1 << two | 1 << three);
        check.due("1 and 3", sums.wouldShed(8000), 1 << one | 1 << three);
        check.due("1 and 2", sums.wouldShed(9000), 1 << one | 1 << two);
        check.due("all", sums.wouldShed(0), 1 << one | 1 << two | 1 << three | 1 << four);
        ClockPlanner last = Twins.made(y -> Plans.fill(y, 22));
        int highest = branch(last, 1, 1);
        check.due("the highest bit", last.wouldShed(0), 1 << 23);
        check.due("the highest leaf", highest, 23);
        check.due("shed", last.shed(0), 1);
        check.due("it does not request", last.ofLeaf(23, 3), 0);
    }

    private static void gatesOfEachRule() {
        check.says("so that, if they did not request, the power of all would be at most the budget");
        int[] due = {-5, 0, 0xf << 2, 1 << 2, 1 << 2 | 1 << 3};
        for (int rule = 0; rule <= 4; rule++) {
            ClockPlanner x = Plans.gated(rule, 4);
            x.set(1, 1, 1);
            check.due("rule " + rule, x.wouldShed(0), due[rule]);
        }
        ClockPlanner nested = new ClockPlanner();
        nested.add(0, 3, 4);
        nested.add(1, 3, 2);
        nested.set(2, 1, 1);
        nested.leaf(2, 0, 0, 0, 9);
        nested.leaf(1, 0, 0, 0, 3);
        nested.leaf(1, 0, 0, 0, 3);
        check.due("two beside the inner gate close the outer one", nested.wouldShed(0), 1 << 4 | 1 << 5);
    }

    private static void emptySet() {
        check.says("Returns the number of leaves of the set");
        ClockPlanner x = new ClockPlanner();
        check.due("no leaf, and no power", x.wouldShed(0), 0);
        check.due("shed(0)", x.shed(0), 0);
        check.due("a change", x.count(2), 1);
        twins.undone("shed with the empty set", Plans::rich, y -> y.shed(2000000000));
        twins.undone("shed with all", Plans::rich, y -> y.shed(0));
    }

    private static void allLeaves() {
        check.says("Returns the set, as bits");
        ClockPlanner x = Twins.made(y -> Plans.fill(y, 13));
        x.add(12, 3, 2);
        x.set(13, 1, 1);
        for (int n = 14; n <= 23; n++) {
            x.leaf(13, 0, 0, 0, 9);
        }
        check.due("ten leaves", x.wouldShed(999), 0x3ff << 14);
        check.due("shed", x.shed(999), 10);
        check.due("none requests", x.node(0, 10), 0);
        check.due("power", x.power(-1), 0);
    }

    private static void noSetIsEnough() {
        check.says("9 no set of leaves is enough");
        Twins.Calls steady = y -> {
            Plans.rich(y);
            y.set(0, 1, 1);
        };
        check.due("just enough", Twins.made(steady).shed(1200), 1);
        twins.refused("one less", steady, y -> y.shed(1199), 9);
        twins.refused("nothing", steady, y -> y.shed(0), 9);
        check.says("-5 if no set is enough");
        check.due("just enough", Twins.made(steady).wouldShed(1200), 1 << 5);
        twins.error("one less", steady, y -> y.wouldShed(1199), -5);
        twins.error("nothing", steady, y -> y.wouldShed(0), -5);
    }

    private static void budgetsAtTheEnds() {
        check.says("the budget, 0 to 2000000000");
        ClockPlanner x = new ClockPlanner();
        check.due("shed(0)", x.shed(0), 0);
        check.due("shed(2000000000)", x.shed(2000000000), 0);
        check.due("shed(-1)", x.shed(-1), -2);
        check.due("shed(2000000001)", x.shed(2000000001), -2);
        check.due("wouldShed(0)", x.wouldShed(0), 0);
        check.due("wouldShed(2000000000)", x.wouldShed(2000000000), 0);
        check.due("wouldShed(-1)", x.wouldShed(-1), -2);
        check.due("wouldShed(2000000001)", x.wouldShed(2000000001), -2);
        check.due("no reason", x.reason(), -5);
    }

    private static void nothingChanges() {
        check.says("Returns the set of shedding for a budget; nothing changes.");
        for (int budget : new int[] {-1, 0, 1, 1800, 3600, 9000, 2000000000, 2000000001}) {
            twins.unchanged("wouldShed(" + budget + ")", Plans::richWithTape, y -> y.wouldShed(budget));
        }
    }

    private static void theyDoNotRequestThen() {
        check.says("Sheds for a budget; the leaves of the set do not request then.");
        ClockPlanner x = new ClockPlanner();
        int one = branch(x, 1, 3);
        int two = branch(x, 2, 2);
        int three = branch(x, 3, 1);
        check.due("shed", x.shed(1000), 2);
        check.due("the first requests", x.ofLeaf(one, 3), 1);
        check.due("the second does not", x.ofLeaf(two, 3), 0);
        check.due("the third does not", x.ofLeaf(three, 3), 0);
        check.due("gates that are open", x.account(8), 1);
        check.due("power", x.power(-1), 1000);
        x.back();
        check.due("they request again", x.node(0, 10), 3);
        check.due("power", x.power(-1), 6000);
    }
}
