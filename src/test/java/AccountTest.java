/** What the questions of promises 18 to 24 answer at their boundaries: none, one, several and all. */
public final class AccountTest {
    private static final Check check = new Check();

    public static void main(String[] args) {
        numberByKind();
        parents();
        children();
        requestsBelow();
        numbersOfALeaf();
        openGatesThen();
        nodesThatRemain();
        rankedByRate();
        rankedByFractions();
        rankedAll();
        accountsOfKinds();
        accountsAddUp();
        runningNodes();
        contentLeaves();
        sumOfPads();
        greatestDepth();
        check.end();
    }

    private static void numberByKind() {
        check.says("2 its number, its rule, the delay with which a buffer was added, or the group of a leaf, 0 for the "
                + "source");
        int[] least = {0, 1, 1, 0, 0};
        int[] most = {0, 9, 9, 4, 99};
        for (int kind = 1; kind <= 4; kind++) {
            ClockPlanner x = new ClockPlanner();
            x.add(0, kind, least[kind]);
            x.add(0, kind, most[kind]);
            check.due("the least of kind " + kind, x.node(1, 2), least[kind]);
            check.due("the greatest of kind " + kind, x.node(2, 2), most[kind]);
            check.due("its delay", x.node(2, 3), kind == 4 ? 99 : 0);
        }
        ClockPlanner x = new ClockPlanner();
        check.due("the source", x.node(0, 2), 0);
        for (int group = 0; group < 4; group++) {
            x.leaf(0, group, 0, 0, 1);
            check.due("a leaf", x.node(group + 1, 2), group);
        }
        x.source(5);
        x.set(0, 0, 9);
        check.due("the source", x.node(0, 2), 0);
        x.add(0, 4, 30);
        x.set(5, 0, 31);
        check.due("the delay with which it was added", x.node(5, 2), 30);
        check.due("its delay", x.node(5, 3), 31);
    }

    private static void parents() {
        check.says("1 its parent, -5 for the source");
        ClockPlanner x = Twins.made(Plans::chainWithLeaf);
        check.due("the source", x.node(0, 1), -5);
        for (int n = 1; n <= 6; n++) {
            check.due("parent of " + n, x.node(n, 1), n - 1);
        }
        ClockPlanner flat = Twins.made(y -> Plans.fill(y, 24));
        for (int n = 1; n <= 23; n++) {
            check.due("parent of " + n, flat.node(n, 1), 0);
        }
    }

    private static void children() {
        check.says("8 the number of its children; 9 the number of leaves below it; 10 the number of those that request");
        ClockPlanner x = new ClockPlanner();
        check.due("none", x.node(0, 8), 0);
        for (int n = 1; n <= 10; n++) {
            x.leaf(0, 0, 0, 0, 1);
            check.due("children", x.node(0, 8), n);
            check.due("leaves", x.node(0, 9), n);
            check.due("those that request", x.node(0, 10), n);
        }
        for (int n = 11; n <= 23; n++) {
            x.add(0, 4, 0);
            check.due("children", x.node(0, 8), n);
            check.due("leaves", x.node(0, 9), 10);
        }
        for (int n = 10; n >= 1; n--) {
            x.request(n, 0);
            check.due("those that request", x.node(0, 10), n - 1);
            check.due("leaves", x.node(0, 9), 10);
        }
        for (int n = 10; n >= 1; n--) {
            x.remove(n);
            check.due("leaves", x.node(0, 9), n - 1);
            check.due("children", x.node(0, 8), n + 12);
        }
    }

    private static void requestsBelow() {
        check.says("10 the number of those that request");
        ClockPlanner x = new ClockPlanner();
        Check.lay(x, "0g1/2.0:0-0");
        Check.lay(x, "0g1.0:0-0");
        check.due("leaves below a gate that is closed", x.node(1, 9), 2);
        check.due("those that request", x.node(1, 10), 2);
        x.request(3, 0);
        int[] leaves = {2, 2, 1, 0, 0};
        int[] asking = {1, 1, 0, 0, 0};
        for (int n = 0; n < 5; n++) {
            check.due("leaves below " + n, x.node(n, 9), leaves[n]);
            check.due("those that request", x.node(n, 10), asking[n]);
        }
    }

    private static void numbersOfALeaf() {
        check.says("0 the low bound; 1 the high bound; 2 the priority; 3: 1 if it requests, otherwise 0; 4 the pad; 5: 1 if "
                + "it is content, otherwise 0");
        ClockPlanner x = new ClockPlanner();
        x.leaf(0, 0, 0, 4000000, 1);
        x.leaf(0, 0, 4000000, 4000000, 9);
        x.set(1, 0, 99);
        x.limit(0, 0);
        x.mend(0);
        x.request(2, 0);
        int[] first = {0, 4000000, 1, 1, 0, 1};
        int[] second = {4000000, 4000000, 9, 0, 99, 0};
        for (int what = 0; what <= 5; what++) {
            check.due("ofLeaf(1, " + what + ")", x.ofLeaf(1, what), first[what]);
            check.due("ofLeaf(2, " + what + ")", x.ofLeaf(2, what), second[what]);
        }
    }

    private static void openGatesThen() {
        check.says("Returns the number of gates that are open then");
        ClockPlanner x = new ClockPlanner();
        x.leaf(0, 0, 0, 0, 1);
        check.due("no gates", x.request(1, 1), 0);
        check.due("no gates", x.request(1, 0), 0);
        x.add(0, 3, 2);
        x.leaf(2, 0, 0, 0, 1);
        check.due("one gate", x.request(3, 0), 0);
        check.due("one gate", x.request(3, 1), 1);
        check.due("a leaf that is not below it", x.request(1, 1), 1);
        ClockPlanner many = new ClockPlanner();
        many.leaf(0, 0, 0, 0, 1);
        for (int n = 2; n <= 23; n++) {
            many.add(0, 3, 0);
        }
        check.due("all gates there can be", many.request(1, 0), 22);
        check.due("account(8)", many.account(8), 22);
    }

    private static void nodesThatRemain() {
        check.says("Returns the number of nodes that remain");
        ClockPlanner x = Twins.made(y -> Plans.fill(y, 24));
        for (int left = 23; left >= 1; left--) {
            check.due("remove", x.remove(1), left);
            check.due("count(0)", x.count(0), left);
        }
        check.due("the source stays", x.remove(0), -1);
    }

    private static void rankedByRate() {
        check.says("the greatest rate first, of the same rate the lowest number first");
        ClockPlanner x = new ClockPlanner();
        x.add(0, 1, 2);
        x.add(0, 2, 2);
        x.add(0, 4, 0);
        x.add(2, 1, 2);
        x.add(1, 2, 4);
        x.leaf(2, 0, 0, 0, 1);
        x.leaf(1, 0, 0, 0, 1);
        int[] due = {2, 5, 6, 0, 3, 4, 1, 7};
        for (int i = 0; i < due.length; i++) {
            check.due("ranked(" + i + ")", x.ranked(i), due[i]);
        }
        check.due("ranked(8)", x.ranked(8), -1);
        check.due("ranked(-1)", x.ranked(-1), -1);
    }

    private static void rankedByFractions() {
        check.says("the greatest rate first, of the same rate the lowest number first");
        // 1/2, 3/7 and 4/9 of the source, each between those beside it.
        ClockPlanner x = new ClockPlanner();
        x.source(1);
        Check.lay(x, "0/7*3");
        Check.lay(x, "0/9*4");
        Check.lay(x, "0/2");
        Check.lay(x, "0/4*2");
        int[] due = {0, 5, 7, 4, 2, 6, 1, 3};
        for (int i = 0; i < due.length; i++) {
            check.due("ranked(" + i + ")", x.ranked(i), due[i]);
        }
        ClockPlanner near = new ClockPlanner();
        near.source(1000000);
        Check.lay(near, "0/9*8");
        Check.lay(near, "0/8*7");
        check.due("8/9 before 7/8", near.ranked(1), 2);
        check.due("7/8", near.ranked(2), 4);
    }

    private static void rankedAll() {
        check.says("Returns the node; NONE if there is no such place.");
        ClockPlanner one = new ClockPlanner();
        check.due("ranked(0)", one.ranked(0), 0);
        check.due("ranked(1)", one.ranked(1), -1);
        ClockPlanner x = Twins.made(y -> Plans.fill(y, 23));
        x.add(0, 2, 2);
        check.due("the last one first", x.ranked(0), 23);
        for (int i = 1; i <= 23; i++) {
            check.due("ranked(" + i + ")", x.ranked(i), i - 1);
        }
        check.due("ranked(24)", x.ranked(24), -1);
    }

    private static void accountsOfKinds() {
        check.says("0 to 5 the nodes of kind what");
        for (int kind = 1; kind <= 5; kind++) {
            ClockPlanner x = new ClockPlanner();
            int most = kind == 5 ? 10 : 23;
            for (int n = 1; n <= most; n++) {
                if (kind == 5) {
                    x.leaf(0, 0, 0, 0, 1);
                } else {
                    x.add(0, kind, 1);
                }
                check.due("nodes of kind " + kind, x.account(kind), n);
            }
            for (int other = 0; other <= 5; other++) {
                check.due("nodes of kind " + other, x.account(other), other == kind ? most : other == 0 ? 1 : 0);
            }
        }
    }

    private static void accountsAddUp() {
        check.says("accounts that add up");
        ClockPlanner x = Twins.made(Plans::rich);
        int sum = 0;
        for (int kind = 0; kind <= 5; kind++) {
            sum += x.account(kind);
        }
        check.due("all kinds", sum, x.count(0));
        long power = 0;
        int running = 0;
        for (int n = 0; n < x.count(0); n++) {
            power += x.power(n);
            running += x.node(n, 6);
        }
        check.due("all powers", power, x.power(-1));
        check.due("all that run", running, x.account(6));
        int leaves = 0;
        int leavesRunning = 0;
        for (int group = 0; group < 4; group++) {
            leaves += x.ofGroup(group, 2);
            leavesRunning += x.ofGroup(group, 3);
        }
        check.due("all leaves", leaves, x.account(5));
        check.due("all leaves below the source", leaves, x.node(0, 9));
        check.due("all leaves that run", leavesRunning, x.node(5, 6) + x.node(6, 6));
    }

    private static void runningNodes() {
        check.says("6 the nodes that run");
        ClockPlanner x = new ClockPlanner();
        check.due("the source alone", x.account(6), 1);
        Check.lay(x, "0g1+1+2+3+4+5");
        check.due("the source above a gate that is closed", x.account(6), 1);
        x.tune(1, 0);
        check.due("all", x.account(6), 7);
        ClockPlanner full = Twins.made(y -> Plans.fill(y, 24));
        check.due("all of 24", full.account(6), 24);
    }

    private static void contentLeaves() {
        check.says("7 the leaves that are content");
        ClockPlanner x = new ClockPlanner();
        check.due("without leaves", x.account(7), 0);
        for (int n = 1; n <= 10; n++) {
            x.leaf(0, 0, n % 2 == 0 ? 1000 : 1001, 2000, 1);
            check.due("leaves that are content", x.account(7), n / 2);
        }
        check.due("source", x.source(1001), 1000);
        check.due("all of them", x.account(7), 10);
        ClockPlanner closed = Plans.gated(1, 3);
        check.due("those that do not run count too", closed.account(7), 3);
        closed.add(0, 4, 0);
        check.due("nodes that are no leaves do not", closed.account(7), 3);
    }

    private static void sumOfPads() {
        check.says("9 the sum of all pads");
        ClockPlanner x = new ClockPlanner();
        check.due("without leaves", x.account(9), 0);
        x.add(0, 4, 99);
        x.leaf(1, 0, 0, 0, 1);
        for (int n = 3; n <= 11; n++) {
            x.leaf(0, 0, 0, 0, 1);
        }
        x.limit(0, 0);
        check.due("the greatest sum", x.mend(0), 9 * 99);
        check.due("account(9)", x.account(9), 9 * 99);
        x.remove(3);
        check.due("one less", x.account(9), 8 * 99);
        ClockPlanner gate = Plans.gated(0, 2);
        gate.set(2, 0, 5);
        gate.limit(0, 0);
        gate.mend(0);
        gate.tune(1, 1);
        check.due("pads of leaves that do not run any more", gate.account(9), 5);
    }

    private static void greatestDepth() {
        check.says("10 the greatest depth");
        ClockPlanner x = new ClockPlanner();
        check.due("the source alone", x.account(10), 0);
        for (int n = 1; n <= 6; n++) {
            x.add(n - 1, 4, 0);
            check.due("a chain", x.account(10), n);
        }
        x.add(0, 4, 0);
        check.due("a last node that is not deep", x.account(10), 6);
        for (int n = 6; n >= 2; n--) {
            x.remove(n);
            check.due("a shorter chain", x.account(10), n - 1);
        }
    }
}
