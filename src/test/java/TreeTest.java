/** The paragraphs "Nodes", "Rates" and "Gates": a test for each sentence that names a boundary. */
public final class TreeTest {
    private static final Check check = new Check();
    private static final Twins twins = new Twins(check);

    public static void main(String[] args) {
        at512Calls();
        nodesAtMost24();
        pathsAtMost24();
        numbersUpTo23();
        leavesAtMost10();
        sourceAtFirst();
        parentIsNoLeaf();
        whatIsBelow();
        depthAtMost6();
        numbersDecrease();
        removedParents();
        kinds();
        zeroAtFirst();
        numbersOfRates();
        lowestTerms();
        rateAtMost4000000();
        fractionsAbove4000000();
        rateOfTheSource();
        rules();
        leavesOfAGate();
        whatRuns();
        ratesOfWhatDoesNotRun();
        check.end();
    }

    private static void at512Calls() {
        check.says("An object is used for at most 512 calls after it has been made");
        ClockPlanner x = new ClockPlanner();
        for (int call = 1; call < 512; call++) {
            check.due("call " + call, x.source(call), call == 1 ? 1000 : call - 1);
        }
        check.due("call 512", x.rate(0, 0), 511);
        ClockPlanner grown = new ClockPlanner();
        for (int turn = 0; turn < 128; turn++) {
            check.due("add", grown.add(0, 1, 2), 1);
            check.due("leaf", grown.leaf(1, 0, 0, 0, 1), 2);
            check.due("remove", grown.remove(2), 2);
            check.due("remove", grown.remove(1), 1);
        }
    }

    private static void nodesAtMost24() {
        check.says("There are at most 24 nodes");
        int[] number = {0, 2, 1, 0, 7};
        ClockPlanner x = new ClockPlanner();
        for (int n = 1; n <= 23; n++) {
            check.due("node " + n, x.add(0, 1 + n % 4, number[1 + n % 4]), n);
        }
        check.due("count(0)", x.count(0), 24);
        for (int kind = 1; kind <= 4; kind++) {
            check.refused("one more of kind " + kind, x, x.add(0, kind, number[kind]), 3);
        }
        check.refused("one more leaf", x, x.leaf(0, 0, 0, 0, 1), 3);
        check.due("count(0)", x.count(0), 24);
        check.due("remove(23)", x.remove(23), 23);
        check.due("a leaf as the last one", x.leaf(0, 0, 0, 0, 1), 23);
        check.refused("one more leaf", x, x.leaf(0, 0, 0, 0, 1), 3);
        twins.refused("add", y -> Plans.fill(y, 24), y -> y.add(0, 4, 0), 3);
        twins.refused("leaf", y -> Plans.fill(y, 24), y -> y.leaf(0, 0, 0, 0, 1), 3);
    }

    private static void pathsAtMost24() {
        check.says("3 there would be more than 24 nodes, or more than 10 leaves");
        check.due("two places for two", Check.lay(Twins.made(y -> Plans.fill(y, 22)), "0/2/3"), 2);
        check.due("two places for a leaf too", Check.lay(Twins.made(y -> Plans.fill(y, 22)), "0/2.0:0-1"), 2);
        twins.refusedPart("0/2/3", y -> Plans.fill(y, 23), 2, 3);
        twins.refusedPart("0/2.0:0-1", y -> Plans.fill(y, 23), 2, 3);
        twins.refusedPart("0/2/3", y -> Plans.fill(y, 24), 1, 3);
        twins.refusedPart("0.0:0-1", y -> Plans.fill(y, 24), 1, 3);
        check.due("known nodes need no place", Check.lay(Twins.made(y -> Plans.fill(y, 24)), "0+0"), 0);
        twins.refusedPart("0+0+0", y -> Plans.fill(y, 24), 2, 3);
    }

    private static void numbersUpTo23() {
        check.says("numbered from 0");
        ClockPlanner x = Twins.made(y -> Plans.fill(y, 24));
        for (int n = 0; n < 24; n++) {
            check.due("kind", x.node(n, 0), n == 0 ? 0 : 4);
            check.due("rate", x.rate(n, 0), 1000);
            check.due("again", x.again(n, 0), 1000);
            check.due("power", x.power(n), 0);
            check.due("ranked", x.ranked(n), n);
            check.due("set", x.set(n, 1, 1), 0);
        }
        check.due("node 24", x.node(24, 0), -1);
        check.due("rate of 24", x.rate(24, 0), -1);
        check.due("again of 24", x.again(24, 0), -1);
        check.due("power of 24", x.power(24), -1);
        check.due("place 24", x.ranked(24), -1);
        check.due("leaf 24", x.ofLeaf(24, 0), -1);
        check.due("request of 24", x.request(24, 1), -1);
        check.refused("set of 24", x, x.set(24, 1, 1), 1);
        check.refused("tune of 24", x, x.tune(24, 1), 1);
        check.refused("remove of 24", x, x.remove(24), 1);
        check.refused("add below 24", x, x.add(24, 1, 1), 1);
        check.refusedPart("24", x, 0, 1);
        check.due("power of all", x.power(-1), 24000);
        ClockPlanner last = Twins.made(y -> Plans.fill(y, 23));
        check.due("a leaf with the number 23", last.leaf(22, 2, 1000, 1000, 4), 23);
        check.due("its priority", last.ofLeaf(23, 2), 4);
        check.due("its request", last.request(23, 0), 0);
        check.due("path of it alone", Check.lay(last, "23"), 0);
        check.due("bit 23", last.request(23, 1), 0);
        last.set(23, 1, 1);
        check.due("no gate to close", last.wouldShed(999), -5);
    }

    private static void leavesAtMost10() {
        check.says("of which at most 10 are leaves");
        ClockPlanner x = new ClockPlanner();
        x.add(0, 4, 1);
        for (int n = 0; n < 10; n++) {
            check.due("leaf " + n, x.leaf(n % 2, n % 4, 0, 0, 1), n + 2);
        }
        check.refused("one more", x, x.leaf(0, 0, 0, 0, 1), 3);
        check.refused("one more below another node", x, x.leaf(1, 3, 0, 0, 1), 3);
        check.refusedPart("0.0:0-0", x, 1, 3);
        check.refusedPart("0/2.0:0-0", x, 2, 3);
        check.due("account(5)", x.account(5), 10);
        check.due("other nodes are free", x.add(0, 1, 2), 12);
        check.due("paths without a leaf too", Check.lay(x, "0/3/4"), 2);
        check.due("remove(2)", x.remove(2), 14);
        check.due("a leaf again", Check.lay(x, "0.0:0-0"), 1);
        check.refused("one more", x, x.leaf(0, 0, 0, 0, 1), 3);
        twins.refused("leaf", y -> Plans.fillLeaves(y, 10), y -> y.leaf(0, 0, 0, 0, 1), 3);
        twins.refusedPart("0/2.0:0-0", y -> Plans.fillLeaves(y, 10), 2, 3);
    }

    private static void sourceAtFirst() {
        check.says("node 0 is the source, which is there at first, with the rate 1000");
        ClockPlanner x = new ClockPlanner();
        int[] due = {0, -5, 0, 0, 0, 0, 1, 0, 0, 0, 0};
        for (int what = 0; what < due.length; what++) {
            check.due("node(0, " + what + ")", x.node(0, what), due[what]);
        }
        check.due("rate(0, 0)", x.rate(0, 0), 1000);
        check.due("rate(0, 1)", x.rate(0, 1), 1);
        check.due("again(0, 0)", x.again(0, 0), 1000);
        check.due("again(0, 1)", x.again(0, 1), 1);
        check.due("power(0)", x.power(0), 0);
        check.due("power(-1)", x.power(-1), 0);
        check.due("ranked(0)", x.ranked(0), 0);
        check.due("ranked(1)", x.ranked(1), -1);
        check.due("node(1, 0)", x.node(1, 0), -1);
        check.due("count(0)", x.count(0), 1);
        check.due("wouldShed(0)", x.wouldShed(0), 0);
        check.says("Creates a tree with the source alone.");
        int[] accounts = {1, 0, 0, 0, 0, 0, 1, 0, 0, 0, 0, 0};
        for (int what = 0; what < accounts.length; what++) {
            check.due("account(" + what + ")", x.account(what), accounts[what]);
        }
        int[] ofGroup = {0, 999, 0, 0, 0, -5, -5};
        for (int group = 0; group < 4; group++) {
            for (int what = 0; what < ofGroup.length; what++) {
                check.due("ofGroup(" + group + ", " + what + ")", x.ofGroup(group, what), ofGroup[what]);
            }
        }
    }

    private static void parentIsNoLeaf() {
        check.says("Each other node has a parent, which is no leaf.");
        for (int kind = 1; kind <= 4; kind++) {
            int k = kind;
            twins.refused("add of kind " + k, Plans::rich, x -> x.add(5, k, 1), 1);
        }
        twins.refused("leaf", Plans::rich, x -> x.leaf(5, 0, 0, 0, 1), 1);
        for (String text : new String[] {"5/2", "5*2", "5g0", "5+1", "5.0:0-1", "5/2.0:0-1"}) {
            twins.refusedPart(text, Plans::rich, 1, 1);
        }
    }

    private static void whatIsBelow() {
        check.says("A node is below another one if that is its parent, or the parent of its parent, and so on.");
        ClockPlanner x = Twins.made(Plans::chainWithLeaf);
        x.leaf(3, 0, 0, 0, 1);
        x.request(7, 0);
        int[] leaves = {2, 2, 2, 2, 1, 1, 0, 0};
        int[] asking = {1, 1, 1, 1, 1, 1, 0, 0};
        int[] children = {1, 1, 1, 2, 1, 1, 0, 0};
        for (int n = 0; n < 8; n++) {
            check.due("children of " + n, x.node(n, 8), children[n]);
            check.due("leaves below " + n, x.node(n, 9), leaves[n]);
            check.due("leaves below " + n + " that request", x.node(n, 10), asking[n]);
        }
    }

    private static void depthAtMost6() {
        check.says("Its depth is the number of nodes above it, 0 for the source, and at most 6.");
        ClockPlanner chain = Twins.made(Plans::chain);
        for (int n = 0; n <= 6; n++) {
            check.due("depth of " + n, chain.node(n, 5), n);
        }
        check.due("account(10)", chain.account(10), 6);
        for (int kind = 1; kind <= 4; kind++) {
            int k = kind;
            check.due("depth 6 for kind " + k, Twins.made(Plans::chain).add(5, k, 1), 7);
            twins.refused("depth 7 for kind " + k, Plans::chain, x -> x.add(6, k, 1), 2);
        }
        check.due("depth 6 for a leaf", Twins.made(Plans::chain).leaf(5, 0, 0, 0, 1), 7);
        twins.refused("depth 7 for a leaf", Plans::chain, x -> x.leaf(6, 0, 0, 0, 1), 2);
        check.due("six steps", Check.lay(new ClockPlanner(), "0/2*2g0+1/2*2"), 6);
        check.due("five steps and a leaf", Check.lay(new ClockPlanner(), "0/2*2g0+1/2.0:0-1"), 6);
        twins.refusedPart("0/2*2g0+1/2*2g0", x -> { }, 7, 2);
        twins.refusedPart("0/2*2g0+1/2*2.0:0-1", x -> { }, 7, 2);
        twins.refusedPart("6g0", Plans::chain, 1, 2);
        twins.refusedPart("6.0:0-1", Plans::chain, 1, 2);
        twins.refusedPart("0+0+0+0+0+0+0/2", Plans::chain, 7, 2);
        check.due("known steps to depth 6", Check.lay(Twins.made(Plans::chain), "0+0+0+0+0+0+0"), 0);
    }

    private static void numbersDecrease() {
        check.says("When a node is removed, the numbers of all greater nodes decrease by 1.");
        for (int gone = 1; gone <= 9; gone++) {
            ClockPlanner x = new ClockPlanner();
            for (int n = 1; n <= 9; n++) {
                x.leaf(0, n % 4, n, 10 * n, n);
                x.set(n, 0, 10 * n);
                x.set(n, 1, n);
                x.request(n, n % 2);
            }
            check.due("remove(" + gone + ")", x.remove(gone), 9);
            for (int n = 1; n <= 8; n++) {
                int was = n < gone ? n : n + 1;
                check.due("group", x.node(n, 2), was % 4);
                check.due("delay", x.node(n, 3), 10 * was);
                check.due("load", x.node(n, 4), was);
                check.due("low bound", x.ofLeaf(n, 0), was);
                check.due("high bound", x.ofLeaf(n, 1), 10 * was);
                check.due("priority", x.ofLeaf(n, 2), was);
                check.due("request", x.ofLeaf(n, 3), was % 2);
            }
            check.due("the last number is free", x.node(9, 0), -1);
            check.due("and given again", x.add(0, 1, 2), 9);
        }
    }

    private static void removedParents() {
        check.says("When a node is removed, the numbers of all greater nodes decrease by 1.");
        ClockPlanner x = new ClockPlanner();
        x.add(0, 4, 1);
        x.add(0, 4, 2);
        x.add(1, 1, 3);
        x.add(0, 4, 4);
        x.add(4, 1, 5);
        x.leaf(5, 0, 0, 0, 1);
        check.due("remove(2)", x.remove(2), 6);
        int[] parents = {-5, 0, 1, 0, 3, 4};
        int[] numbers = {0, 1, 3, 4, 5, 0};
        for (int n = 0; n < 6; n++) {
            check.due("parent of " + n, x.node(n, 1), parents[n]);
            check.due("number of " + n, x.node(n, 2), numbers[n]);
        }
        check.due("rate", x.rate(5, 0), 200);
        ClockPlanner pads = Plans.gated(0, 3);
        pads.set(4, 0, 7);
        pads.limit(0, 0);
        check.due("mend", pads.mend(0), 14);
        pads.set(3, 0, 5);
        check.due("remove(2)", pads.remove(2), 4);
        check.due("pad of the first", pads.ofLeaf(2, 4), 7);
        check.due("pad of the last", pads.ofLeaf(3, 4), 0);
        check.due("arrival of the first", pads.node(2, 7), 12);
    }

    private static void kinds() {
        check.says("The kinds are 0 source, 1 divider, 2 multiplier, 3 gate, 4 buffer and 5 leaf.");
        ClockPlanner x = new ClockPlanner();
        for (int kind : new int[] {Integer.MIN_VALUE, -1, 0, 5, 6, Integer.MAX_VALUE}) {
            check.due("add of kind " + kind, x.add(0, kind, 1), -1);
        }
        for (int kind = 1; kind <= 4; kind++) {
            check.due("add of kind " + kind, x.add(0, kind, 3), kind);
        }
        check.due("leaf", x.leaf(0, 0, 0, 0, 1), 5);
        for (int kind = 0; kind <= 5; kind++) {
            check.due("kind of " + kind, x.node(kind, 0), kind);
            check.due("nodes of kind " + kind, x.account(kind), 1);
        }
    }

    private static void zeroAtFirst() {
        check.says("both are 0 at first");
        ClockPlanner x = new ClockPlanner();
        Check.lay(x, "0/2*3g4+0.1:5-6");
        x.leaf(1, 2, 7, 8, 9);
        for (int n = 0; n < 7; n++) {
            check.due("delay of " + n, x.node(n, 3), 0);
            check.due("load of " + n, x.node(n, 4), 0);
        }
        check.due("the delay of a buffer is its number", x.add(0, 4, 99), 7);
        check.due("delay", x.node(7, 3), 99);
        check.due("its load is 0", x.node(7, 4), 0);
        x.set(7, 1, 9);
        x.remove(7);
        x.add(0, 1, 2);
        check.due("of a node in a used place", x.node(7, 3), 0);
        check.due("of a node in a used place", x.node(7, 4), 0);
    }

    private static void numbersOfRates() {
        check.says("The rate of a divider is that of its parent divided by its number, of a multiplier times its "
                + "number, from 1 to 9 each; every other node has the rate of its parent.");
        for (int number = 1; number <= 9; number++) {
            ClockPlanner x = new ClockPlanner();
            x.source(2520);
            x.add(0, 1, number);
            x.add(0, 2, number);
            for (int parent = 1; parent <= 2; parent++) {
                x.add(parent, 3, number % 5);
                x.add(parent, 4, number);
                x.leaf(parent, number % 4, 0, 0, number);
            }
            int[] half = {0, 1, 2, 1, 1, 1, 2, 2, 2};
            for (int n = 1; n <= 8; n++) {
                check.due("rate of " + n, x.rate(n, 0), half[n] == 1 ? 2520 / number : 2520 * number);
                check.due("its denominator", x.rate(n, 1), 1);
            }
        }
    }

    private static void lowestTerms() {
        check.says("All rates are exact fractions in lowest terms");
        ClockPlanner x = new ClockPlanner();
        x.source(1);
        Check.lay(x, "0/9/9/9*9*9*9");
        long[] bottoms = {1, 9, 81, 729, 81, 9, 1};
        for (int n = 0; n <= 6; n++) {
            check.due("numerator of " + n, x.rate(n, 0), 1);
            check.due("denominator of " + n, x.rate(n, 1), bottoms[n]);
            check.due("numerator of " + n + " again", x.again(n, 0), 1);
            check.due("denominator of " + n + " again", x.again(n, 1), bottoms[n]);
        }
        ClockPlanner six = new ClockPlanner();
        six.source(9);
        Check.lay(six, "0/6/6*8*3/4*7");
        long[] tops = {9, 3, 1, 2, 6, 3, 21};
        long[] below = {1, 2, 4, 1, 1, 2, 2};
        for (int n = 0; n <= 6; n++) {
            check.due("numerator of " + n, six.rate(n, 0), tops[n]);
            check.due("denominator of " + n, six.rate(n, 1), below[n]);
            check.due("numerator of " + n + " again", six.again(n, 0), tops[n]);
            check.due("denominator of " + n + " again", six.again(n, 1), below[n]);
        }
        ClockPlanner prime = new ClockPlanner();
        prime.source(999983);
        Check.lay(prime, "0/9/9/9/9/9/9");
        check.due("the greatest denominator", prime.rate(6, 1), 531441);
        check.due("its numerator", prime.rate(6, 0), 999983);
        check.due("the greatest denominator again", prime.again(6, 1), 531441);
        check.due("its numerator again", prime.again(6, 0), 999983);
    }

    private static void rateAtMost4000000() {
        check.says("none may be greater than 4000000");
        Twins.Calls fast = x -> x.source(1000000);
        check.due("add of just that", Twins.made(fast).add(0, 2, 4), 1);
        twins.refused("add of more", fast, x -> x.add(0, 2, 5), 5);
        check.due("lay of just that", Check.lay(Twins.made(fast), "0*4"), 1);
        twins.refusedPart("0*5", fast, 1, 5);
        twins.refusedPart("0*2*2*2", fast, 3, 5);
        twins.refusedPart("0*4*2/9", fast, 2, 5);
        check.due("a multiplier by 1", Check.lay(Twins.made(fast), "0*4*1"), 2);
        check.due("divided first", Check.lay(Twins.made(fast), "0/2*8"), 2);
        Twins.Calls nine = x -> x.add(0, 2, 9);
        check.due("source of nearly that", Twins.made(nine).source(444444), 1000);
        twins.refused("source of more", nine, x -> x.source(444445), 5);
        Twins.Calls four = x -> x.add(0, 2, 4);
        check.due("source of just that", Twins.made(four).source(1000000), 1000);
        Twins.Calls tuned = x -> {
            x.source(1000000);
            x.add(0, 1, 2);
            x.add(1, 2, 2);
            x.add(2, 2, 2);
        };
        check.due("tune to just that", Twins.made(tuned).tune(2, 4), 2);
        twins.refused("tune to more", tuned, x -> x.tune(2, 5), 5);
        check.due("tune of the divider to just that", Twins.made(tuned).tune(1, 1), 2);
        check.due("tune of the last one to just that", Twins.made(tuned).tune(3, 4), 2);
        twins.refused("tune of the last one to more", tuned, x -> x.tune(3, 5), 5);
        ClockPlanner both = Twins.made(tuned);
        check.due("tune(1, 1)", both.tune(1, 1), 2);
        check.refused("tune(2, 3)", both, both.tune(2, 3), 5);
        check.due("its rate stays", both.rate(3, 0), 4000000);
    }

    private static void fractionsAbove4000000() {
        check.says("none may be greater than 4000000");
        // 888889 * 9 / 2 is greater by a half.
        Twins.Calls half = x -> {
            x.source(888889);
            x.add(0, 1, 2);
        };
        twins.refused("add", half, x -> x.add(1, 2, 9), 5);
        twins.refusedPart("1*9", half, 1, 5);
        check.due("a little less", Twins.made(half).add(1, 2, 8), 2);
        Twins.Calls less = x -> {
            x.source(888888);
            x.add(0, 1, 2);
            x.add(1, 2, 9);
        };
        check.due("rate", Twins.made(less).rate(2, 0), 3999996);
        twins.refused("source", less, x -> x.source(888889), 5);
        Twins.Calls ninths = x -> {
            x.source(1000000);
            Check.lay(x, "0/9*9*4");
        };
        check.due("just that by way of ninths", Twins.made(ninths).rate(3, 0), 4000000);
        twins.refused("tune of the divider", ninths, x -> x.tune(1, 8), 5);
    }

    private static void rateOfTheSource() {
        check.says("The rate of the source is an integer from 1 to 1000000.");
        ClockPlanner x = new ClockPlanner();
        check.due("source(1)", x.source(1), 1000);
        check.due("rate", x.rate(0, 0), 1);
        check.due("source(1000000)", x.source(1000000), 1);
        check.due("rate", x.rate(0, 0), 1000000);
        check.refused("source(0)", x, x.source(0), 4);
        check.refused("source(1000001)", x, x.source(1000001), 4);
        check.refused("source(-1)", x, x.source(-1), 4);
        check.due("rate", x.rate(0, 0), 1000000);
    }

    /** Whether a gate with a rule is open if so many of so many leaves request. */
    private static boolean isOpen(int rule, int asking, int all) {
        switch (rule) {
            case 0:
                return true;
            case 1:
                return false;
            case 2:
                return asking >= 1;
            case 3:
                return all >= 1 && asking == all;
            default:
                return 2 * asking > all;
        }
    }

    private static void rules() {
        check.says("0 it is always open; 1 never; 2 open if at least one leaf below it requests; 3 if all leaves below "
                + "it request, and there is one; 4 if more leaves below it request than do not.");
        for (int rule = 0; rule <= 4; rule++) {
            for (int all = 0; all <= 10; all++) {
                ClockPlanner x = Plans.gated(rule, all);
                for (int asking = all; asking >= 0; asking--) {
                    int due = isOpen(rule, asking, all) ? 1 : 0;
                    String what = "rule " + rule + " with " + asking + " of " + all;
                    check.due(what, x.account(8), due);
                    check.due(what + ", it runs", x.node(1, 6), due);
                    check.due(what + ", leaves that run", x.ofGroup(0, 3), due * all);
                    if (asking > 0) {
                        int next = isOpen(rule, asking - 1, all) ? 1 : 0;
                        check.due(what + ", then one less", x.request(1 + asking, 0), next);
                    }
                }
            }
        }
    }

    private static void leavesOfAGate() {
        check.says("2 open if at least one leaf below it requests");
        for (int rule = 2; rule <= 4; rule++) {
            ClockPlanner x = new ClockPlanner();
            x.add(0, 3, rule);
            x.leaf(0, 0, 0, 0, 1);
            check.due("a leaf beside it, rule " + rule, x.account(8), 0);
            x.add(1, 4, 0);
            x.add(3, 3, 1);
            x.add(4, 1, 2);
            x.leaf(5, 0, 0, 0, 1);
            check.due("a leaf far below it, rule " + rule, x.account(8), 1);
            check.due("it runs", x.node(1, 6), 1);
            check.due("the leaf does not", x.node(6, 6), 0);
            check.due("the leaf beside it", x.request(2, 0), 1);
            check.due("the leaf below it", x.request(6, 0), 0);
            check.due("it does not run", x.node(1, 6), 0);
            x.request(6, 1);
            check.due("the leaf is gone", x.remove(6), 6);
            check.due("no gate is open", x.account(8), 0);
        }
    }

    private static void whatRuns() {
        check.says("A node runs if all gates above it are open, and, if it is a gate, it is open itself.");
        ClockPlanner x = new ClockPlanner();
        Check.lay(x, "0+1g0/2g2*2.0:0-1");
        Check.lay(x, "2g1");
        int[] all = {1, 1, 1, 1, 1, 1, 1, 0};
        int[] inner = {1, 1, 1, 1, 0, 0, 0, 0};
        int[] outer = {1, 1, 0, 0, 0, 0, 0, 0};
        for (int n = 0; n < 8; n++) {
            check.due("node " + n, x.node(n, 6), all[n]);
        }
        check.due("nodes that run", x.account(6), 7);
        check.due("the inner gate closes", x.request(6, 0), 1);
        for (int n = 0; n < 8; n++) {
            check.due("node " + n, x.node(n, 6), inner[n]);
        }
        check.due("nodes that run", x.account(6), 4);
        x.request(6, 1);
        x.tune(2, 1);
        for (int n = 0; n < 8; n++) {
            check.due("node " + n, x.node(n, 6), outer[n]);
        }
        check.due("nodes that run", x.account(6), 2);
        check.due("the inner gate is open all the same", x.account(8), 1);
    }

    private static void ratesOfWhatDoesNotRun() {
        check.says("What does not run has no power; its rate is told all the same.");
        ClockPlanner x = new ClockPlanner();
        Check.lay(x, "0g1/7*2+3.0:0-1");
        for (int n = 0; n < 6; n++) {
            x.set(n, 1, 9);
            check.due("power of " + n, x.power(n), n == 0 ? 9000 : 0);
        }
        check.due("power of all", x.power(-1), 9000);
        long[] tops = {1000, 1000, 1000, 2000, 2000, 2000};
        for (int n = 0; n < 6; n++) {
            check.due("numerator of " + n, x.rate(n, 0), tops[n]);
            check.due("denominator of " + n, x.rate(n, 1), n < 2 ? 1 : 7);
            check.due("numerator of " + n + " again", x.again(n, 0), tops[n]);
            check.due("denominator of " + n + " again", x.again(n, 1), n < 2 ? 1 : 7);
        }
        check.due("a way from what does not run", x.way(2000, 7, 1), 3);
        check.due("its place", x.ranked(0), 0);
        check.due("whether a leaf is content too", x.ofLeaf(5, 5), 0);
    }
}
