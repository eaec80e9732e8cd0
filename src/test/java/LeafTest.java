/** The paragraphs "Leaves", "Arrivals" and "Mending": a test for each sentence that names a boundary. */
public final class LeafTest {
    private static final Check check = new Check();
    private static final Twins twins = new Twins(check);

    public static void main(String[] args) {
        leafAtFirst();
        usedPlaces();
        groupsOfLeaves();
        contentAtTheBounds();
        contentByFractions();
        contentAtTheEnds();
        addedWhetherContentOrNot();
        arrivals();
        greatestArrival();
        skewOfFewerThanTwo();
        skewOfThoseThatRun();
        limitsAtFirst();
        limitAnswers();
        mendedJustSo();
        mendedAsLittleAsPossible();
        mendedThatRun();
        mendedTwice();
        padUpTo99();
        padUpTo99InTwoSteps();
        oneRefusedMendsNone();
        whatMendingWouldDo();
        latestAndEarliest();
        skewedGroups();
        check.end();
    }

    /** Leaves of group 0 below the source, from node 1 on, with these delays. */
    private static ClockPlanner delayed(int... delays) {
        ClockPlanner x = new ClockPlanner();
        for (int delay : delays) {
            x.leaf(0, 0, 0, 4000000, 1);
            x.set(x.count(0) - 1, 0, delay);
        }
        return x;
    }

    private static void leafAtFirst() {
        check.says("whether it requests, as it does at first, and a pad from 0 to 99, which is 0 at first");
        ClockPlanner x = new ClockPlanner();
        check.due("leaf", x.leaf(0, 3, 0, 4000000, 9), 1);
        check.due("a path's leaf", Check.lay(x, "0.2:0000000-4000000"), 1);
        for (int n = 1; n <= 2; n++) {
            check.due("low bound", x.ofLeaf(n, 0), 0);
            check.due("high bound", x.ofLeaf(n, 1), 4000000);
            check.due("priority", x.ofLeaf(n, 2), n == 1 ? 9 : 1);
            check.due("it requests", x.ofLeaf(n, 3), 1);
            check.due("pad", x.ofLeaf(n, 4), 0);
            check.due("group", x.node(n, 2), n == 1 ? 3 : 2);
        }
        x.request(1, 0);
        x.remove(1);
        x.leaf(0, 0, 0, 0, 1);
        check.due("one in a used place requests", x.ofLeaf(2, 3), 1);
    }

    private static void usedPlaces() {
        check.says("a pad from 0 to 99, which is 0 at first");
        ClockPlanner x = delayed(30, 0);
        x.limit(0, 0);
        check.due("mend(0)", x.mend(0), 30);
        check.due("remove(2)", x.remove(2), 2);
        check.due("pads", x.account(9), 0);
        check.due("a leaf in its place", x.leaf(0, 0, 0, 0, 1), 2);
        check.due("its pad", x.ofLeaf(2, 4), 0);
        check.due("its arrival", x.node(2, 7), 0);
        check.due("mend(0)", x.mend(0), 30);
        check.due("remove(2)", x.remove(2), 2);
        check.due("a buffer in its place", x.add(0, 4, 5), 2);
        check.due("its arrival", x.node(2, 7), 5);
        check.due("pads", x.account(9), 0);
        check.due("a leaf below it", x.leaf(2, 1, 0, 0, 1), 3);
        check.due("its arrival", x.node(3, 7), 5);
        check.says("6 a leaf that is content would not be so any more");
        ClockPlanner gone = new ClockPlanner();
        gone.leaf(0, 0, 1000, 1000, 1);
        gone.leaf(0, 0, 1000, 1000, 1);
        gone.remove(2);
        check.refused("one is left", gone, gone.source(999), 6);
        gone.remove(1);
        check.due("none is left", gone.source(999), 1000);
        gone.add(0, 4, 0);
        check.due("nor in its place", gone.source(998), 999);
    }

    private static void groupsOfLeaves() {
        check.says("A leaf has a group from 0 to 3");
        for (int group = 0; group <= 3; group++) {
            ClockPlanner x = new ClockPlanner();
            check.due("leaf of group " + group, x.leaf(0, group, 0, 0, 1), 1);
            for (int other = 0; other <= 3; other++) {
                check.due("leaves of " + other, x.ofGroup(other, 2), other == group ? 1 : 0);
                check.due("of those that run", x.ofGroup(other, 3), other == group ? 1 : 0);
                check.due("the latest", x.ofGroup(other, 5), other == group ? 1 : -5);
                check.due("the earliest", x.ofGroup(other, 6), other == group ? 1 : -5);
            }
        }
        twins.error("group -1", Plans::rich, x -> x.leaf(0, -1, 0, 0, 1), -1);
        twins.error("group 4", Plans::rich, x -> x.leaf(0, 4, 0, 0, 1), -1);
    }

    private static void contentAtTheBounds() {
        check.says("It is content if its rate is within its bounds.");
        int[][] bounds = {{999, 1001}, {1000, 1000}, {1000, 1001}, {999, 1000}, {1001, 1001}, {999, 999},
            {0, 999}, {1001, 4000000}, {0, 4000000}, {0, 0}};
        int[] due = {1, 1, 1, 1, 0, 0, 0, 0, 1, 0};
        int sum = 0;
        ClockPlanner x = new ClockPlanner();
        for (int i = 0; i < bounds.length; i++) {
            x.leaf(0, 0, bounds[i][0], bounds[i][1], 1);
            sum += due[i];
            check.due("bounds " + bounds[i][0] + " to " + bounds[i][1], x.ofLeaf(i + 1, 5), due[i]);
            check.due("account(7)", x.account(7), sum);
        }
    }

    private static void contentByFractions() {
        check.says("It is content if its rate is within its bounds.");
        // A third of 1000 is between 333 and 334, and a ninth of 1 between 0 and 1.
        ClockPlanner x = new ClockPlanner();
        x.add(0, 1, 3);
        int[][] bounds = {{333, 334}, {334, 400}, {0, 333}, {333, 333}, {334, 334}};
        for (int i = 0; i < bounds.length; i++) {
            x.leaf(1, 0, bounds[i][0], bounds[i][1], 1);
            check.due("bounds " + bounds[i][0] + " to " + bounds[i][1], x.ofLeaf(i + 2, 5), i == 0 ? 1 : 0);
        }
        ClockPlanner small = new ClockPlanner();
        small.source(1);
        Check.lay(small, "0/9/9/9/9/9.0:0-0");
        small.leaf(5, 0, 0, 1, 1);
        small.leaf(5, 0, 1, 1, 1);
        check.due("more than 0", small.ofLeaf(6, 5), 0);
        check.due("between 0 and 1", small.ofLeaf(7, 5), 1);
        check.due("less than 1", small.ofLeaf(8, 5), 0);
    }

    private static void contentAtTheEnds() {
        check.says("It is content if its rate is within its bounds.");
        ClockPlanner x = new ClockPlanner();
        x.source(1000000);
        x.add(0, 2, 4);
        x.leaf(1, 0, 4000000, 4000000, 1);
        x.leaf(1, 0, 0, 3999999, 1);
        check.due("just 4000000", x.ofLeaf(2, 5), 1);
        check.due("more than 3999999", x.ofLeaf(3, 5), 0);
        ClockPlanner prime = new ClockPlanner();
        prime.source(999983);
        Check.lay(prime, "0*4/9/9/9.0:5486-5487");
        prime.leaf(4, 0, 5487, 4000000, 1);
        check.due("3999932/729 is above 5486", prime.ofLeaf(5, 5), 1);
        check.due("and below 5487", prime.ofLeaf(6, 5), 0);
    }

    private static void addedWhetherContentOrNot() {
        check.says("Adds a leaf, whether it is content or not.");
        ClockPlanner x = new ClockPlanner();
        check.due("content", x.leaf(0, 0, 1000, 1000, 1), 1);
        check.due("not content", x.leaf(0, 0, 1001, 1001, 1), 2);
        check.due("a path's leaf that is not", Check.lay(x, "0.0:1-999"), 1);
        check.due("account(5)", x.account(5), 3);
        check.due("account(7)", x.account(7), 1);
    }

    private static void arrivals() {
        check.says("The arrival of a node is the sum of its delay and those of all nodes above it, and, if it is a "
                + "leaf, of its pad.");
        ClockPlanner x = new ClockPlanner();
        Check.lay(x, "0/2*3g0+40.0:0-1");
        x.leaf(2, 0, 0, 0, 1);
        int[] delays = {1, 2, 4, 8, 16, 32, 64};
        int[] due = {1, 3, 7, 15, 31, 63, 71};
        for (int n = 0; n < 7; n++) {
            x.set(n, 0, delays[n]);
        }
        for (int n = 0; n < 7; n++) {
            check.due("arrival of " + n, x.node(n, 7), due[n]);
        }
        x.limit(0, 0);
        check.due("mend(0)", x.mend(0), 8);
        check.due("with its pad", x.node(5, 7), 71);
        check.due("its delay stays", x.node(5, 3), 32);
        check.due("those above it stay", x.node(4, 7), 31);
        x.tune(3, 1);
        check.due("of what does not run", x.node(5, 7), 71);
    }

    private static void greatestArrival() {
        check.says("The arrival of a node is the sum of its delay and those of all nodes above it");
        ClockPlanner x = Twins.made(Plans::chainWithLeaf);
        for (int n = 0; n <= 6; n++) {
            x.set(n, 0, 99);
        }
        for (int n = 0; n <= 6; n++) {
            check.due("arrival of " + n, x.node(n, 7), 99 * (n + 1));
        }
        x.leaf(0, 0, 0, 0, 1);
        check.due("the greatest skew", x.ofGroup(0, 0), 594);
        check.due("a limit of 594", x.limit(0, 594), 1);
        check.due("a limit of 593", x.limit(0, 593), 0);
        check.due("a limit of 495", x.limit(0, 495), 0);
        check.due("a pad of 99", x.mend(0), 99);
        check.due("a limit of 494", x.limit(0, 494), 0);
        check.refused("a pad of 100", x, x.mend(0), 8);
    }

    private static void skewOfFewerThanTwo() {
        check.says("0 if fewer than two of them run");
        ClockPlanner x = new ClockPlanner();
        check.due("no leaf", x.ofGroup(0, 0), 0);
        x.set(0, 0, 50);
        x.add(0, 3, 2);
        x.leaf(1, 0, 0, 0, 1);
        x.set(2, 0, 30);
        check.due("one leaf", x.ofGroup(0, 0), 0);
        check.due("its limit of 0", x.limit(0, 0), 1);
        x.leaf(0, 0, 0, 0, 1);
        check.due("two leaves", x.ofGroup(0, 0), 30);
        check.due("one of them runs", x.request(2, 0), 0);
        check.due("skew", x.ofGroup(0, 0), 0);
        check.due("a limit of 0", x.limit(0, 0), 1);
        check.due("nothing to mend", x.mend(0), 0);
        x.remove(3);
        check.due("none of them runs", x.ofGroup(0, 3), 0);
        check.due("skew", x.ofGroup(0, 0), 0);
        check.due("latest", x.ofGroup(0, 5), -5);
        check.due("earliest", x.ofGroup(0, 6), -5);
        check.due("mend", x.mend(0), 0);
    }

    private static void skewOfThoseThatRun() {
        check.says("The skew of a group is the greatest arrival of its leaves that run, minus the least one");
        ClockPlanner x = delayed(40, 10, 25);
        check.due("three", x.ofGroup(0, 0), 30);
        x.add(0, 3, 1);
        x.leaf(4, 0, 0, 0, 1);
        x.set(5, 0, 99);
        check.due("one that does not run", x.ofGroup(0, 0), 30);
        x.leaf(0, 1, 0, 0, 1);
        check.due("one of another group", x.ofGroup(0, 0), 30);
        x.request(2, 0);
        check.due("one that does not request runs all the same", x.ofGroup(0, 0), 30);
        x.tune(4, 0);
        check.due("the gate opens", x.ofGroup(0, 0), 89);
    }

    private static void limitsAtFirst() {
        check.says("Each group has a limit from 0 to 999, which is 999 at first.");
        ClockPlanner x = new ClockPlanner();
        for (int group = 0; group < 4; group++) {
            check.due("limit of " + group, x.ofGroup(group, 1), 999);
        }
        for (int group = 0; group < 4; group++) {
            check.due("limit(.., 0)", x.limit(group, 0), 1);
            for (int other = 0; other < 4; other++) {
                check.due("limit of " + other, x.ofGroup(other, 1), other <= group ? 0 : 999);
            }
        }
        check.due("limit(0, 999)", x.limit(0, 999), 1);
        check.due("limit", x.ofGroup(0, 1), 999);
        check.due("limit(0, 1000)", x.limit(0, 1000), -2);
        check.due("limit(0, -1)", x.limit(0, -1), -2);
        check.due("limit", x.ofGroup(0, 1), 999);
    }

    private static void limitAnswers() {
        check.says("Returns 1 if its skew is at most the limit, otherwise 0");
        ClockPlanner x = delayed(0, 20);
        check.due("limit(0, 21)", x.limit(0, 21), 1);
        check.due("limit(0, 20)", x.limit(0, 20), 1);
        check.due("limit(0, 19)", x.limit(0, 19), 0);
        check.due("it is set all the same", x.ofGroup(0, 1), 19);
        check.due("limit(0, 0)", x.limit(0, 0), 0);
        check.due("limit(0, 999)", x.limit(0, 999), 1);
        check.due("another group", x.limit(1, 0), 1);
    }

    private static void mendedJustSo() {
        check.says("each arrival that is less than the greatest one minus the limit becomes that");
        ClockPlanner x = delayed(50, 39, 40, 41, 0);
        x.limit(0, 10);
        check.due("mend(0)", x.mend(0), 41);
        int[] pads = {0, 1, 0, 0, 40};
        int[] arrivals = {50, 40, 40, 41, 40};
        for (int n = 1; n <= 5; n++) {
            check.due("pad of " + n, x.ofLeaf(n, 4), pads[n - 1]);
            check.due("arrival of " + n, x.node(n, 7), arrivals[n - 1]);
        }
        check.due("skew", x.ofGroup(0, 0), 10);
        check.due("account(9)", x.account(9), 41);
    }

    private static void mendedAsLittleAsPossible() {
        check.says("A group is mended by pads that are increased, each as little as possible");
        ClockPlanner x = delayed(50, 30);
        x.limit(0, 20);
        check.due("a skew of just the limit", x.mend(0), 0);
        x.limit(0, 19);
        check.due("a skew of one more", x.mend(0), 1);
        x.limit(0, 0);
        check.due("a limit of 0", x.mend(0), 19);
        check.due("both arrive at once", x.node(2, 7), 50);
        x.limit(0, 999);
        check.due("pads are never decreased", x.mend(0), 0);
        check.due("pad", x.ofLeaf(2, 4), 20);
        ClockPlanner early = delayed(3, 0);
        early.limit(0, 5);
        check.due("a limit above all arrivals", early.mend(0), 0);
    }

    private static void mendedThatRun() {
        check.says("of its leaves that run, so that its skew is at most its limit");
        ClockPlanner x = delayed(60, 50);
        x.add(0, 3, 1);
        x.leaf(3, 0, 0, 0, 1);
        x.leaf(3, 0, 0, 0, 1);
        x.set(5, 0, 99);
        x.leaf(0, 1, 0, 0, 1);
        x.limit(0, 0);
        check.due("mend(0)", x.mend(0), 10);
        int[] pads = {0, 10, 0, 0, 0, 0};
        for (int n = 1; n <= 6; n++) {
            check.due("pad of " + n, n == 3 ? 0 : x.ofLeaf(n, 4), pads[n - 1]);
        }
        x.tune(3, 0);
        check.due("now all run", x.ofGroup(0, 4), 39 + 39 + 99);
        check.due("and are mended", x.mend(0), 177);
        check.due("pads add up", x.ofLeaf(2, 4), 49);
        check.due("the other group stays", x.ofLeaf(6, 4), 0);
    }

    private static void mendedTwice() {
        check.says("A group that needs no mending is mended by 0, and that is a change.");
        ClockPlanner x = delayed(9, 0);
        x.limit(0, 0);
        x.image();
        x.undo();
        check.due("mend", x.mend(0), 9);
        check.due("a change", x.count(2), 1);
        check.due("once more", x.mend(0), 0);
        check.due("a change", x.count(2), 2);
        check.due("a group without leaves", x.mend(3), 0);
        check.due("a change", x.count(2), 3);
        check.due("back()", x.back(), 2);
        check.due("back()", x.back(), 1);
        check.due("pad", x.ofLeaf(2, 4), 9);
        check.due("back()", x.back(), 0);
        check.due("pad", x.ofLeaf(2, 4), 0);
        twins.undone("mend of no group's leaf", Plans::rich, y -> y.mend(0));
        twins.undone("mend of what is mended", Plans::rich, y -> y.mend(1));
    }

    private static void padUpTo99() {
        check.says("8 a pad would be greater than 99");
        Twins.Calls far = x -> {
            x.add(0, 4, 99);
            x.leaf(1, 0, 0, 0, 1);
            x.set(2, 0, 1);
            x.leaf(0, 0, 0, 0, 1);
            x.limit(0, 1);
        };
        check.due("a pad of 99", Twins.made(far).ofGroup(0, 4), 99);
        check.due("a pad of 99", Twins.made(far).mend(0), 99);
        Twins.Calls farther = x -> {
            far.on(x);
            x.limit(0, 0);
        };
        check.due("a pad of 100", Twins.made(farther).ofGroup(0, 4), -5);
        twins.refused("a pad of 100", farther, x -> x.mend(0), 8);
    }

    private static void padUpTo99InTwoSteps() {
        check.says("8 a pad would be greater than 99");
        ClockPlanner x = delayed(60, 0);
        x.limit(0, 0);
        check.due("a pad of 60", x.mend(0), 60);
        x.set(1, 0, 99);
        check.due("39 more", x.ofGroup(0, 4), 39);
        check.due("a pad of 99", x.mend(0), 39);
        check.due("pad", x.ofLeaf(2, 4), 99);
        x.set(0, 0, 1);
        check.due("a delay above both", x.mend(0), 0);
        x.add(0, 4, 1);
        x.leaf(3, 0, 0, 0, 1);
        x.set(4, 0, 99);
        check.due("1 more", x.ofGroup(0, 4), -5);
        check.refused("a pad of 100", x, x.mend(0), 8);
        check.due("pad of the first", x.ofLeaf(1, 4), 0);
        check.due("pad of the second", x.ofLeaf(2, 4), 99);
        check.due("a limit of 1", x.limit(0, 1), 1);
        check.due("nothing to mend", x.mend(0), 0);
    }

    private static void oneRefusedMendsNone() {
        check.says("A call that returns an error code leaves the state unchanged");
        twins.refused("the last pad is too great", x -> {
            x.add(0, 4, 50);
            x.leaf(1, 0, 0, 0, 1);
            x.leaf(1, 0, 0, 0, 1);
            x.set(2, 0, 60);
            x.leaf(0, 0, 0, 0, 1);
            x.limit(0, 0);
        }, x -> x.mend(0), 8);
        twins.refused("the first pad is too great", x -> {
            x.leaf(0, 0, 0, 0, 1);
            x.add(0, 4, 50);
            x.leaf(2, 0, 0, 0, 1);
            x.leaf(2, 0, 0, 0, 1);
            x.set(4, 0, 60);
            x.limit(0, 9);
        }, x -> x.mend(0), 8);
    }

    private static void whatMendingWouldDo() {
        check.says("4 the sum by which mending would increase pads, -5 if a pad would be greater than 99");
        ClockPlanner x = delayed(70, 10, 20, 0);
        int[] limits = {999, 70, 69, 60, 59, 50, 49, 0};
        for (int limit : limits) {
            x.limit(0, limit);
            int due = Math.max(0, 60 - limit) + Math.max(0, 50 - limit) + Math.max(0, 70 - limit);
            check.due("with the limit " + limit, x.ofGroup(0, 4), due);
            check.due("nothing changes", x.account(9), 0);
            check.due("mend(0)", x.mend(0), due);
            check.due("then there is nothing to do", x.ofGroup(0, 4), 0);
            x.back();
        }
    }

    private static void latestAndEarliest() {
        check.says("5 the leaf that runs with the greatest arrival, of several the lowest one, -5 without one; 6 that "
                + "with the least arrival likewise");
        ClockPlanner x = delayed(5, 9, 5, 9, 7);
        check.due("latest", x.ofGroup(0, 5), 2);
        check.due("earliest", x.ofGroup(0, 6), 1);
        x.set(1, 0, 6);
        check.due("earliest", x.ofGroup(0, 6), 3);
        x.set(2, 0, 8);
        check.due("latest", x.ofGroup(0, 5), 4);
        for (int n = 1; n <= 5; n++) {
            x.set(n, 0, 3);
        }
        check.due("latest of all the same", x.ofGroup(0, 5), 1);
        check.due("earliest of all the same", x.ofGroup(0, 6), 1);
        check.due("without one", x.ofGroup(2, 5), -5);
        check.due("without one", x.ofGroup(2, 6), -5);
        ClockPlanner closed = Plans.gated(1, 2);
        check.due("leaves", closed.ofGroup(0, 2), 2);
        check.due("none runs", closed.ofGroup(0, 3), 0);
        check.due("latest", closed.ofGroup(0, 5), -5);
        check.due("earliest", closed.ofGroup(0, 6), -5);
        closed.leaf(0, 0, 0, 0, 1);
        check.due("the one that runs", closed.ofGroup(0, 5), 4);
        check.due("the one that runs", closed.ofGroup(0, 6), 4);
    }

    private static void skewedGroups() {
        check.says("11 the groups whose skews are greater than their limits, as a set");
        ClockPlanner x = new ClockPlanner();
        for (int n = 1; n <= 8; n++) {
            x.leaf(0, (n - 1) % 4, 0, 0, 1);
            x.set(n, 0, n > 4 ? 10 * (n - 4) : 0);
        }
        check.due("none at first", x.account(11), 0);
        for (int set = 0; set < 16; set++) {
            for (int group = 0; group < 4; group++) {
                boolean less = (set >> group & 1) == 1;
                check.due("limit", x.limit(group, 10 * (group + 1) - (less ? 1 : 0)), less ? 0 : 1);
            }
            check.due("the set " + set, x.account(11), set);
        }
    }
}
