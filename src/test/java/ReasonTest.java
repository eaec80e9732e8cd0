/**
 * The paragraphs "Reasons" and "Errors": which reason or error is told where several apply, and that
 * the call changes nothing then.
 */
public final class ReasonTest {
    private static final int NONE = -1, BAD = -2, STATE = -3, FULL = -4;
    private static final Check check = new Check();
    private static final Twins twins = new Twins(check);

    public static void main(String[] args) {
        eachReason();
        tooDeep();
        tooFast();
        eachError();
        addInOrder();
        addNoneFirst();
        leafInOrder();
        leafNoneFirst();
        sourceInOrder();
        contentLeavesAlone();
        setInOrder();
        tuneInOrder();
        tuneContentLeaves();
        requestInOrder();
        limitInOrder();
        removeInOrder();
        shedInOrder();
        feedInOrder();
        stepsInOrder();
        pathLeavesInOrder();
        backAndUndo();
        latestReason();
        errorsKeepNoReason();
        nothingOnlyWithoutError();
        check.end();
    }

    /** A chain to depth 6, and all other places taken. */
    private static void fullChain(ClockPlanner x) {
        Plans.chain(x);
        Plans.fill(x, 24);
    }

    /** A chain with a leaf at depth 6, and all other places taken. */
    private static void fullChainWithLeaf(ClockPlanner x) {
        Plans.chainWithLeaf(x);
        Plans.fill(x, 24);
    }

    /** A chain to depth 6, and ten leaves beside it. */
    private static void chainAndTenLeaves(ClockPlanner x) {
        Plans.chain(x);
        Plans.fillLeaves(x, 10);
    }

    /** The greatest rate there is at node 1, and a leaf with the number 2 below it. */
    private static void fast(ClockPlanner x) {
        x.source(1000000);
        x.add(0, 2, 4);
        x.leaf(1, 0, 4000000, 4000000, 1);
    }

    private static void fastDeep(ClockPlanner x) {
        x.source(1000000);
        Check.lay(x, "0*4+1+2+3+4+5");
    }

    private static void fastFull(ClockPlanner x) {
        fast(x);
        Plans.fill(x, 24);
    }

    private static void eachReason() {
        check.says("Something is refused for a reason, of which the first that applies is told");
        twins.refused("1", Plans::rich, x -> x.add(8, 1, 1), 1);
        twins.refused("1 for a leaf", Plans::rich, x -> x.add(5, 1, 1), 1);
        twins.refused("2", Plans::chain, x -> x.add(6, 1, 1), 2);
        twins.refused("3 for nodes", x -> Plans.fill(x, 24), x -> x.add(0, 1, 1), 3);
        twins.refused("3 for leaves", x -> Plans.fillLeaves(x, 10), x -> x.leaf(0, 0, 0, 0, 1), 3);
        twins.refused("4", Plans::rich, x -> x.add(0, 1, 10), 4);
        twins.refused("5", ReasonTest::fast, x -> x.add(1, 2, 2), 5);
        twins.refused("6", ReasonTest::fast, x -> x.source(999999), 6);
        twins.refused("7", ReasonTest::fast, x -> x.remove(1), 7);
        twins.refused("8", x -> {
            x.add(0, 4, 1);
            x.leaf(1, 0, 0, 0, 1);
            x.set(2, 0, 99);
            x.leaf(0, 0, 0, 0, 1);
            x.limit(0, 0);
        }, x -> x.mend(0), 8);
        twins.refused("9", x -> x.set(0, 1, 1), x -> x.shed(999), 9);
    }

    private static void tooDeep() {
        check.says("2 a depth would be greater than 6");
        for (int parent = 0; parent <= 6; parent++) {
            ClockPlanner x = Twins.made(Plans::chain);
            long due = parent < 6 ? 7 : STATE;
            check.due("add below " + parent, x.add(parent, 1, 2), due);
            ClockPlanner y = Twins.made(Plans::chain);
            check.due("leaf below " + parent, y.leaf(parent, 0, 0, 0, 1), due);
            ClockPlanner z = Twins.made(Plans::chain);
            check.due("path below " + parent, Check.lay(z, parent + "/2"), parent < 6 ? 1 : -201);
            int reason = parent < 6 ? -5 : 2;
            check.due("reason of add", x.reason(), reason);
            check.due("reason of leaf", y.reason(), reason);
            check.due("reason of lay", z.reason(), reason);
        }
    }

    private static void tooFast() {
        check.says("5 a rate would be greater than 4000000");
        for (int number = 1; number <= 9; number++) {
            int most = Math.min(1000000, 4000000 / number);
            int factor = number;
            Twins.Calls tree = x -> {
                x.source(most);
                x.add(0, 2, factor);
            };
            check.due("at most 4000000", Twins.made(tree).rate(1, 0), (long) most * number);
            if (most < 1000000) {
                twins.refused("source of one more", tree, x -> x.source(most + 1), 5);
                twins.refused("add of one more", x -> x.source(most + 1), x -> x.add(0, 2, factor), 5);
                twins.refusedPart("0*" + number, x -> x.source(most + 1), 1, 5);
                twins.refused("tune to one more", x -> {
                    x.source(most + 1);
                    x.add(0, 2, 1);
                }, x -> x.tune(1, factor), 5);
            }
        }
    }

    private static void eachError() {
        check.says("NONE means that a number or selector is invalid, STATE that the call is refused for a reason or that "
                + "the state forbids it, BAD that a value is out of range, and FULL that a limit is reached.");
        twins.error("a selector", Plans::rich, x -> x.count(3), NONE);
        twins.error("a number", Plans::rich, x -> x.power(8), NONE);
        twins.refused("a refusal", Plans::rich, x -> x.set(8, 0, 0), 1);
        twins.error("a state", ReasonTest::fast, ClockPlanner::undo, STATE);
        twins.error("a value", Plans::rich, x -> x.limit(0, 1000), BAD);
        twins.error("a limit", x -> Check.feed(x, "0".repeat(40)), x -> x.feed(1, 48, 48, 48, 48, 48), FULL);
    }

    private static void addInOrder() {
        check.says("STATE with the reason 1, 2, 3, 4 or 5.");
        twins.refused("1 before 2", Plans::chainWithLeaf, x -> x.add(6, 1, 1), 1);
        twins.refused("1 before 3", x -> Plans.fill(x, 24), x -> x.add(24, 1, 1), 1);
        twins.refused("1 before 2 and 3", ReasonTest::fullChainWithLeaf, x -> x.add(6, 1, 1), 1);
        twins.refused("1 before 4", Plans::rich, x -> x.add(8, 1, 0), 1);
        twins.refused("1 before 4 for a leaf", Plans::rich, x -> x.add(5, 4, 100), 1);
        twins.refused("1 before 5", ReasonTest::fast, x -> x.add(2, 2, 9), 1);
        twins.refused("2 before 3", ReasonTest::fullChain, x -> x.add(6, 1, 1), 2);
        twins.refused("2 before 4", Plans::chain, x -> x.add(6, 1, 0), 2);
        twins.refused("2 before 5", ReasonTest::fastDeep, x -> x.add(6, 2, 9), 2);
        twins.refused("2 before 3 and 4", ReasonTest::fullChain, x -> x.add(6, 3, 5), 2);
        twins.refused("3 before 4", x -> Plans.fill(x, 24), x -> x.add(0, 1, 0), 3);
        twins.refused("3 before 5", ReasonTest::fastFull, x -> x.add(1, 2, 2), 3);
        twins.refused("4 before 5", ReasonTest::fast, x -> x.add(1, 2, 10), 4);
        twins.refused("4 alone", ReasonTest::fast, x -> x.add(1, 2, 0), 4);
        twins.refused("4 alone", ReasonTest::fast, x -> x.add(1, 2, Integer.MAX_VALUE), 4);
    }

    private static void addNoneFirst() {
        check.says("NONE if there is no such kind; STATE with the reason 1, 2, 3, 4 or 5.");
        for (int kind : new int[] {-1, 0, 5}) {
            twins.error("NONE before 1", Plans::rich, x -> x.add(8, kind, 1), NONE);
            twins.error("NONE before 1 for a leaf", Plans::rich, x -> x.add(5, kind, 1), NONE);
            twins.error("NONE before 2", Plans::chain, x -> x.add(6, kind, 1), NONE);
            twins.error("NONE before 3", x -> Plans.fill(x, 24), x -> x.add(0, kind, 1), NONE);
            twins.error("NONE before 4", Plans::rich, x -> x.add(0, kind, 100), NONE);
            twins.error("NONE before 5", ReasonTest::fast, x -> x.add(1, kind, 9), NONE);
        }
    }

    private static void leafInOrder() {
        check.says("STATE with the reason 1, 2, 3 or 4.");
        twins.refused("1 before 2", Plans::chainWithLeaf, x -> x.leaf(6, 0, 0, 0, 1), 1);
        twins.refused("1 before 3", x -> Plans.fill(x, 24), x -> x.leaf(24, 0, 0, 0, 1), 1);
        twins.refused("1 before 3 for leaves", x -> Plans.fillLeaves(x, 10), x -> x.leaf(10, 0, 0, 0, 1), 1);
        twins.refused("1 before 4", Plans::rich, x -> x.leaf(8, 0, 1, 0, 1), 1);
        twins.refused("1 before 4 for a priority", Plans::rich, x -> x.leaf(5, 0, 0, 0, 0), 1);
        twins.refused("2 before 3", ReasonTest::fullChain, x -> x.leaf(6, 0, 0, 0, 1), 2);
        twins.refused("2 before 3 for leaves", ReasonTest::chainAndTenLeaves, x -> x.leaf(6, 0, 0, 0, 1), 2);
        twins.refused("2 before 4", Plans::chain, x -> x.leaf(6, 0, 1, 0, 1), 2);
        twins.refused("2 before 4 for a priority", Plans::chain, x -> x.leaf(6, 0, 0, 0, 10), 2);
        twins.refused("3 before 4", x -> Plans.fill(x, 24), x -> x.leaf(0, 0, 1, 0, 1), 3);
        twins.refused("3 before 4 for leaves", x -> Plans.fillLeaves(x, 10), x -> x.leaf(0, 0, -1, 0, 1), 3);
        twins.refused("3 before 4 for a priority", x -> Plans.fillLeaves(x, 10), x -> x.leaf(0, 0, 0, 0, 0), 3);
        twins.refused("4", ReasonTest::fast, x -> x.leaf(1, 0, 0, 4000001, 1), 4);
    }

    private static void leafNoneFirst() {
        check.says("NONE if there is no such group; STATE with the reason 1, 2, 3 or 4.");
        for (int group : new int[] {-1, 4}) {
            twins.error("NONE before 1", Plans::rich, x -> x.leaf(8, group, 0, 0, 1), NONE);
            twins.error("NONE before 2", Plans::chain, x -> x.leaf(6, group, 0, 0, 1), NONE);
            twins.error("NONE before 3", x -> Plans.fill(x, 24), x -> x.leaf(0, group, 0, 0, 1), NONE);
            twins.error("NONE before 3", x -> Plans.fillLeaves(x, 10), x -> x.leaf(0, group, 0, 0, 1), NONE);
            twins.error("NONE before 4", Plans::rich, x -> x.leaf(0, group, 1, 0, 0), NONE);
        }
    }

    private static void sourceInOrder() {
        check.says("Returns the rate before; STATE with the reason 4, 5 or 6.");
        Twins.Calls nine = x -> {
            x.add(0, 2, 9);
            x.leaf(1, 0, 9000, 9000, 1);
        };
        twins.refused("4 before 5 and 6", nine, x -> x.source(1000001), 4);
        twins.refused("4 before 6", nine, x -> x.source(0), 4);
        twins.refused("5 before 6", nine, x -> x.source(444445), 5);
        twins.refused("6 alone", nine, x -> x.source(444444), 6);
        twins.refused("6 alone", nine, x -> x.source(999), 6);
        twins.refused("6 alone", nine, x -> x.source(1001), 6);
        twins.refused("5 before 6 where the leaf comes first", x -> {
            x.leaf(0, 0, 1000, 1000, 1);
            x.add(0, 2, 9);
        }, x -> x.source(444445), 5);
        check.due("the rate before", Twins.made(nine).source(1000), 1000);
    }

    private static void contentLeavesAlone() {
        check.says("6 a leaf that is content would not be so any more");
        Twins.Calls both = x -> {
            x.leaf(0, 0, 900, 1100, 1);
            x.leaf(0, 0, 2000, 3000, 1);
        };
        check.due("to the low bound", Twins.made(both).source(900), 1000);
        check.due("to the high bound", Twins.made(both).source(1100), 1000);
        twins.refused("below the low bound", both, x -> x.source(899), 6);
        twins.refused("above the high bound", both, x -> x.source(1101), 6);
        twins.refused("though another one would be content", both, x -> x.source(2500), 6);
        ClockPlanner x = Twins.made(both);
        x.remove(1);
        check.due("one that is not content may stay so", x.source(1999), 1000);
        check.due("not content", x.ofLeaf(1, 5), 0);
        check.due("and become content", x.source(2000), 1999);
        check.due("content", x.ofLeaf(1, 5), 1);
        check.refused("and then it counts", x, x.source(1999), 6);
        ClockPlanner closed = Plans.gated(1, 0);
        closed.leaf(1, 0, 1000, 1000, 1);
        closed.request(2, 0);
        check.refused("one that does not run counts too", closed, closed.source(999), 6);
    }

    private static void setInOrder() {
        check.says("Returns the value before; NONE if what is invalid; STATE with the reason 1 (the node may be a leaf) "
                + "or 4.");
        for (int what : new int[] {-1, 2}) {
            twins.error("NONE", Plans::rich, x -> x.set(1, what, 1), NONE);
            twins.error("NONE before 1", Plans::rich, x -> x.set(8, what, 1), NONE);
            twins.error("NONE before 4", Plans::rich, x -> x.set(1, what, 100), NONE);
        }
        twins.refused("1 before 4", Plans::rich, x -> x.set(8, 0, 100), 1);
        twins.refused("1 before 4", Plans::rich, x -> x.set(-1, 1, 10), 1);
        twins.refused("4", Plans::rich, x -> x.set(5, 0, 100), 4);
        twins.refused("4", Plans::rich, x -> x.set(5, 1, 10), 4);
        ClockPlanner x = Twins.made(Plans::rich);
        check.due("the delay of a leaf before", x.set(5, 0, 99), 0);
        check.due("and then", x.set(5, 0, 0), 99);
        check.due("the load of a leaf before", x.set(5, 1, 9), 2);
        check.due("and then", x.set(5, 1, 0), 9);
        check.due("the delay of a buffer before", x.set(4, 0, 1), 7);
        check.due("the load of a buffer before", x.set(4, 1, 1), 3);
    }

    private static void tuneInOrder() {
        check.says("Returns the one before; NONE if the node is none of these; STATE with the reason 1 (the node may be "
                + "a leaf), 4, 5 or 6.");
        for (int node : new int[] {0, 4, 5, 6, 7}) {
            twins.error("NONE", Plans::rich, x -> x.tune(node, 1), NONE);
            twins.error("NONE before 4", Plans::rich, x -> x.tune(node, 100), NONE);
        }
        twins.refused("1 before 4", Plans::rich, x -> x.tune(8, 100), 1);
        twins.refused("1 before 4", Plans::rich, x -> x.tune(-1, -1), 1);
        twins.refused("4 before 5", ReasonTest::fast, x -> x.tune(1, 10), 4);
        twins.refused("4 before 6", ReasonTest::fast, x -> x.tune(1, 0), 4);
        twins.refused("5 before 6", ReasonTest::fast, x -> x.tune(1, 5), 5);
        twins.refused("6 alone", ReasonTest::fast, x -> x.tune(1, 3), 6);
        twins.refused("5 before 6 where the leaf comes first", x -> {
            x.source(1000000);
            Check.lay(x, "0/4.0:250000-250000");
            Check.lay(x, "0/4*9*1");
        }, x -> x.tune(1, 2), 5);
        ClockPlanner x = Twins.made(ReasonTest::fast);
        check.due("the one before", x.tune(1, 4), 4);
        x.remove(2);
        check.due("the one before", x.tune(1, 1), 4);
        check.due("and then", x.tune(1, 4), 1);
    }

    private static void tuneContentLeaves() {
        check.says("6 a leaf that is content would not be so any more");
        Twins.Calls tree = x -> {
            x.source(5040);
            Check.lay(x, "0/6*3g2.0:2100-2880");
            x.leaf(3, 0, 0, 100, 1);
            x.leaf(0, 0, 5040, 5040, 1);
        };
        check.due("to the low bound", Twins.made(tree).rate(4, 0), 2520);
        check.due("a rule", Twins.made(tree).tune(3, 1), 2);
        check.due("the same number", Twins.made(tree).tune(1, 6), 6);
        twins.refused("above", tree, x -> x.tune(1, 5), 6);
        twins.refused("above", tree, x -> x.tune(2, 4), 6);
        twins.refused("below", tree, x -> x.tune(1, 8), 6);
        twins.refused("below", tree, x -> x.tune(2, 2), 6);
        check.due("within", Twins.made(tree).tune(1, 7), 6);
        ClockPlanner x = Twins.made(tree);
        x.remove(4);
        check.due("one that is not content may stay so", x.tune(1, 5), 6);
        check.due("the leaf elsewhere is content", x.ofLeaf(5, 5), 1);
    }

    private static void requestInOrder() {
        check.says("NONE if there is no such node or it is no leaf; BAD if is is neither 0 nor 1");
        for (int node : new int[] {-1, 0, 1, 3, 4, 7, 8}) {
            twins.error("NONE", Plans::rich, x -> x.request(node, 1), NONE);
            twins.error("NONE before BAD", Plans::rich, x -> x.request(node, 2), NONE);
        }
        twins.error("BAD", Plans::rich, x -> x.request(5, 2), BAD);
        twins.error("BAD", Plans::rich, x -> x.request(5, -1), BAD);
    }

    private static void limitInOrder() {
        check.says("NONE if there is no such group; BAD if the limit is out of range");
        for (int group : new int[] {-1, 4}) {
            twins.error("NONE", Plans::rich, x -> x.limit(group, 5), NONE);
            twins.error("NONE before BAD", Plans::rich, x -> x.limit(group, -1), NONE);
            twins.error("NONE before BAD", Plans::rich, x -> x.limit(group, 1000), NONE);
        }
        twins.error("BAD", Plans::rich, x -> x.limit(1, -1), BAD);
        twins.error("BAD", Plans::rich, x -> x.limit(1, 1000), BAD);
    }

    private static void removeInOrder() {
        check.says("Returns the number of nodes that remain; NONE if it is the source; STATE with the reason 1 (the node "
                + "may be a leaf) or 7.");
        twins.error("NONE before 7", Plans::rich, x -> x.remove(0), NONE);
        twins.error("NONE alone", x -> { }, x -> x.remove(0), NONE);
        twins.refused("1", Plans::rich, x -> x.remove(8), 1);
        twins.refused("7", Plans::rich, x -> x.remove(4), 7);
        check.due("a leaf", Twins.made(Plans::rich).remove(5), 7);
        check.due("a buffer without children", Twins.made(Plans::rich).remove(7), 7);
        ClockPlanner x = Twins.made(Plans::rich);
        x.remove(5);
        check.due("one that has no children any more", x.remove(4), 6);
        check.due("a content leaf may go", x.count(0), 6);
    }

    private static void shedInOrder() {
        check.says("BAD if the budget is out of range; STATE with the reason 9");
        Twins.Calls steady = x -> {
            Plans.rich(x);
            x.set(0, 1, 1);
        };
        twins.error("BAD before 9", steady, x -> x.shed(-1), BAD);
        twins.error("BAD", steady, x -> x.shed(2000000001), BAD);
        twins.refused("9", steady, x -> x.shed(0), 9);
        twins.error("BAD before -5", steady, x -> x.wouldShed(-1), BAD);
        twins.error("BAD", steady, x -> x.wouldShed(2000000001), BAD);
    }

    private static void feedInOrder() {
        check.says("FULL if the tape would be longer than 40 bytes, and then none is appended");
        Twins.Calls full = x -> {
            Plans.rich(x);
            Check.feed(x, "0+0000001+0000002+0000003+0000004+00005");
        };
        check.due("39 bytes", Twins.made(full).count(1), 39);
        twins.error("FULL", full, x -> x.feed(2, 48, 48, 48, 48, 48), FULL);
        twins.error("BAD before FULL", full, x -> x.feed(2, 48, 48, 48, 48, 128), BAD);
        twins.error("BAD before FULL", full, x -> x.feed(6, 48, 48, 48, 48, 48), BAD);
        twins.error("BAD", full, x -> x.feed(0, 48, 48, 48, 48, 48), BAD);
        check.due("the last byte", Twins.made(full).feed(1, 48, 48, 48, 48, 48), 40);
    }

    private static void stepsInOrder() {
        check.says("with the reason 1 (a node that is a leaf at the beginning, at the first part behind it), 2, 3, 4 or "
                + "5");
        twins.refusedPart("6/2", Plans::chainWithLeaf, 1, 1);
        twins.refusedPart("6/2", ReasonTest::fullChainWithLeaf, 1, 1);
        twins.refusedPart("5+100", Plans::rich, 1, 1);
        twins.refusedPart("2*9", ReasonTest::fast, 1, 1);
        twins.refusedPart("6/2", ReasonTest::fullChain, 1, 2);
        twins.refusedPart("6+100", Plans::chain, 1, 2);
        twins.refusedPart("6*9", ReasonTest::fastDeep, 1, 2);
        twins.refusedPart("0+100", x -> Plans.fill(x, 24), 1, 3);
        twins.refusedPart("1*9", ReasonTest::fastFull, 1, 3);
        twins.refusedPart("0+100", ReasonTest::fast, 1, 4);
        twins.refusedPart("1*2", ReasonTest::fast, 1, 5);
        twins.refusedPart("0*4*1*2", ReasonTest::fast, 3, 5);
    }

    private static void pathLeavesInOrder() {
        check.says("then the steps and the leaf from 1 on, with the reason 1");
        twins.refusedPart("6.0:0-0", Plans::chainWithLeaf, 1, 1);
        twins.refusedPart("24.0:0-0", x -> Plans.fill(x, 24), 0, 1);
        twins.refusedPart("6.0:0-0", ReasonTest::fullChainWithLeaf, 1, 1);
        twins.refusedPart("10.0:0-0", x -> Plans.fillLeaves(x, 10), 1, 1);
        twins.refusedPart("5.0:1-0", Plans::rich, 1, 1);
        twins.refusedPart("6.0:0-0", ReasonTest::fullChain, 1, 2);
        twins.refusedPart("6.0:0-0", ReasonTest::chainAndTenLeaves, 1, 2);
        twins.refusedPart("6.0:1-0", Plans::chain, 1, 2);
        twins.refusedPart("0.0:1-0", x -> Plans.fill(x, 24), 1, 3);
        twins.refusedPart("0.0:1-0", x -> Plans.fillLeaves(x, 10), 1, 3);
        twins.refusedPart("0.0:1-0", Plans::rich, 1, 4);
    }

    private static void backAndUndo() {
        check.says("STATE if there is none");
        twins.error("back()", x -> { }, ClockPlanner::back, STATE);
        twins.error("back()", x -> {
            Plans.richWithTape(x);
            for (int i = 0; i < 4; i++) {
                x.back();
            }
        }, ClockPlanner::back, STATE);
        check.says("STATE if there is no snapshot");
        twins.error("undo()", x -> { }, ClockPlanner::undo, STATE);
        twins.error("undo()", ReasonTest::fast, ClockPlanner::undo, STATE);
    }

    private static void latestReason() {
        check.says("Returns the reason, -5 if there was none.");
        ClockPlanner x = new ClockPlanner();
        check.due("there was none", x.reason(), -5);
        x.set(0, 1, 1);
        check.due("a success is none", x.reason(), -5);
        check.refused("source", x, x.source(0), 4);
        check.due("it is kept", x.reason(), 4);
        check.refused("remove", x, x.remove(1), 1);
        check.refused("shed", x, x.shed(0), 9);
        check.due("source", x.source(5), 1000);
        check.due("a success leaves it", x.reason(), 9);
        check.refusedPart("1", x, 0, 1);
        check.refusedPart("0+100", x, 1, 4);
        check.due("back()", x.back(), 1);
        check.due("back leaves it", x.reason(), 4);
        x.image();
        check.refused("tune", x, x.tune(7, 1), 1);
        check.due("undo()", x.undo(), 1);
        check.due("undo leaves it", x.reason(), 1);
    }

    private static void errorsKeepNoReason() {
        check.says("that a refusal has its reason kept");
        ClockPlanner x = new ClockPlanner();
        x.set(0, 1, 1);
        x.back();
        x.set(0, 1, 1);
        x.add(0, 0, 1);
        x.leaf(0, 4, 0, 0, 1);
        x.set(0, 2, 0);
        x.tune(0, 1);
        x.request(0, 1);
        x.limit(4, 0);
        x.limit(0, 1000);
        x.remove(0);
        x.mend(4);
        x.shed(-1);
        x.wouldShed(-1);
        x.wouldShed(0);
        x.feed(0, 0, 0, 0, 0, 0);
        Check.lay(x, "0/");
        x.rate(9, 0);
        x.node(9, 0);
        x.ofLeaf(0, 0);
        x.ofGroup(4, 0);
        x.power(9);
        x.way(0, 0, 0);
        x.way(1, 1, 0);
        x.ranked(9);
        x.account(12);
        x.undo();
        x.count(3);
        check.due("none of these is a refusal", x.reason(), -5);
        check.due("back()", x.back(), 0);
        check.due("back() once more", x.back(), STATE);
        check.due("nor is that", x.reason(), -5);
    }

    private static void nothingOnlyWithoutError() {
        check.says("The result -5 is returned only if no error applies.");
        ClockPlanner x = new ClockPlanner();
        check.due("reason()", x.reason(), -5);
        check.due("node(0, 1)", x.node(0, 1), -5);
        check.due("node(1, 1)", x.node(1, 1), NONE);
        check.due("ofGroup(0, 5)", x.ofGroup(0, 5), -5);
        check.due("ofGroup(4, 5)", x.ofGroup(4, 5), NONE);
        check.due("ofGroup(0, 6)", x.ofGroup(0, 6), -5);
        check.due("ofGroup(-1, 6)", x.ofGroup(-1, 6), NONE);
        check.due("way(1, 1, 0)", x.way(1, 1, 0), -5);
        check.due("way(1, 1, 4)", x.way(1, 1, 4), NONE);
        check.due("way(0, 1, 0)", x.way(0, 1, 0), BAD);
        check.due("way(1000, 1, 2)", x.way(1000, 1, 2), -5);
        check.due("way(500, 1, 3)", x.way(500, 1, 3), -5);
        x.set(0, 1, 1);
        check.due("wouldShed(0)", x.wouldShed(0), -5);
        check.due("wouldShed(-1)", x.wouldShed(-1), BAD);
    }
}
