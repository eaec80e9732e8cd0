/** The paragraph "Ways" and way: a test for each sentence that names a boundary. */
public final class WayTest {
    private static final Check check = new Check();
    private static final Twins twins = new Twins(check);

    public static void main(String[] args) {
        numbersOfAWay();
        noNewOnes();
        oneNewOne();
        numbersFrom2To9();
        twoNewOnes();
        neverThree();
        justThisRate();
        notInLowestTerms();
        notAbove4000000();
        depthAtMost6();
        noLeaf();
        fewestNewOnes();
        lowestDepth();
        lowestNumber();
        lowestRow();
        anyNumberOfNodes();
        rangesBeforeTheWay();
        nothingChanges();
        whatDoesNotRun();
        check.end();
    }

    private static void wayIs(ClockPlanner x, int above, int below, int... due) {
        for (int what = 0; what < 4; what++) {
            check.due("way(" + above + ", " + below + ", " + what + ")", x.way(above, below, what), due[what]);
        }
    }

    private static void noWay(ClockPlanner x, int above, int below) {
        wayIs(x, above, below, -5, -5, -5, -5);
    }

    private static ClockPlanner of(int rate) {
        ClockPlanner x = new ClockPlanner();
        x.source(rate);
        return x;
    }

    private static void numbersOfAWay() {
        check.says("0 the number of new ones; 1 the node from which it goes; 2, 3 the first and the second new one, as "
                + "each counts, -5 without one");
        ClockPlanner x = new ClockPlanner();
        x.add(0, 1, 7);
        wayIs(x, 1000, 7, 0, 1, -5, -5);
        wayIs(x, 1000, 63, 1, 1, 9, -5);
        wayIs(x, 9000, 7, 1, 1, 19, -5);
        wayIs(x, 9000, 77, -5, -5, -5, -5);
        wayIs(x, 1000, 567, 2, 1, 9, 9);
        wayIs(x, 81000, 7, 2, 1, 19, 19);
        wayIs(x, 2000, 63, 2, 1, 9, 12);
    }

    private static void noNewOnes() {
        check.says("or the node itself if there are none, has just this rate");
        wayIs(of(1), 1, 1, 0, 0, -5, -5);
        wayIs(of(1000000), 1000000, 1, 0, 0, -5, -5);
        ClockPlanner x = new ClockPlanner();
        x.add(0, 1, 7);
        x.add(1, 2, 3);
        wayIs(x, 1000, 1, 0, 0, -5, -5);
        wayIs(x, 1000, 7, 0, 1, -5, -5);
        wayIs(x, 3000, 7, 0, 2, -5, -5);
    }

    private static void oneNewOne() {
        check.says("a way is a row of 0 to 2 new dividers and multipliers");
        ClockPlanner x = of(5040);
        for (int number = 2; number <= 9; number++) {
            wayIs(x, 5040 / (5040 % number == 0 ? number : 1), 5040 % number == 0 ? 1 : number, 1, 0, number, -5);
            wayIs(x, 5040 * number, 1, 1, 0, 10 + number, -5);
        }
    }

    private static void numbersFrom2To9() {
        check.says("with numbers from 2 to 9, one below the other");
        ClockPlanner x = of(1);
        wayIs(x, 1, 9, 1, 0, 9, -5);
        wayIs(x, 1, 10, 2, 0, 2, 5);
        wayIs(x, 9, 1, 1, 0, 19, -5);
        wayIs(x, 10, 1, 2, 0, 12, 15);
        noWay(x, 1, 11);
        noWay(x, 11, 1);
        noWay(x, 1, 13);
        noWay(x, 13, 1);
        wayIs(x, 1, 81, 2, 0, 9, 9);
        wayIs(x, 81, 1, 2, 0, 19, 19);
        noWay(x, 1, 22);
        noWay(x, 22, 1);
        noWay(x, 1, 90);
        noWay(x, 90, 1);
        noWay(x, 1, 100);
        noWay(x, 100, 1);
    }

    private static void twoNewOnes() {
        check.says("one below the other, so that the last one");
        ClockPlanner x = of(1);
        boolean[] reached = new boolean[82];
        for (int first = 2; first <= 9; first++) {
            for (int second = 2; second <= 9; second++) {
                reached[first * second] = true;
            }
        }
        for (int number = 10; number <= 81; number++) {
            check.due("1/" + number, x.way(1, number, 0), reached[number] ? 2 : -5);
            check.due(number + "/1", x.way(number, 1, 0), reached[number] ? 2 : -5);
        }
        wayIs(x, 9, 8, 2, 0, 8, 19);
        wayIs(x, 8, 9, 2, 0, 9, 18);
        wayIs(x, 9, 2, 2, 0, 2, 19);
        wayIs(x, 2, 9, 2, 0, 9, 12);
    }

    private static void neverThree() {
        check.says("a way is a row of 0 to 2 new dividers and multipliers");
        ClockPlanner x = of(1);
        noWay(x, 1, 82);
        noWay(x, 1, 125);
        noWay(x, 1, 729);
        noWay(x, 125, 1);
        noWay(x, 27, 64);
        noWay(x, 35, 6);
        noWay(x, 7, 10);
        x.add(0, 1, 5);
        wayIs(x, 1, 125, 2, 1, 5, 5);
        wayIs(x, 7, 10, 2, 1, 2, 17);
    }

    private static void justThisRate() {
        check.says("has just this rate");
        ClockPlanner x = of(1000000);
        wayIs(x, 500000, 1, 1, 0, 2, -5);
        noWay(x, 499999, 1);
        noWay(x, 500001, 1);
        noWay(x, 999999, 1);
        noWay(x, 333333, 1);
        wayIs(x, 1000000, 3, 1, 0, 3, -5);
        noWay(x, 333334, 1);
        wayIs(x, 1000000, 27, 2, 0, 3, 9);
        noWay(x, 37037, 1);
        noWay(x, 1, 9999);
        noWay(x, 4000000, 9999);
        noWay(x, 1, 1);
    }

    private static void notInLowestTerms() {
        check.says("For a wanted rate and a node");
        ClockPlanner x = new ClockPlanner();
        wayIs(x, 4000000, 4000, 0, 0, -5, -5);
        wayIs(x, 2000, 4, 1, 0, 2, -5);
        wayIs(x, 3999000, 3999, 0, 0, -5, -5);
        x.add(0, 1, 3);
        wayIs(x, 2000, 6, 0, 1, -5, -5);
        wayIs(x, 3333000, 9999, 0, 1, -5, -5);
    }

    private static void notAbove4000000() {
        check.says("no rate on the way may be greater than 4000000");
        ClockPlanner x = of(1000000);
        wayIs(x, 4000000, 1, 1, 0, 14, -5);
        wayIs(x, 2250000, 1, 2, 0, 4, 19);
        wayIs(x, 1500000, 1, 2, 0, 2, 13);
        wayIs(x, 3500000, 1, 2, 0, 2, 17);
        ClockPlanner fast = of(1000000);
        fast.add(0, 2, 4);
        wayIs(fast, 4000000, 1, 0, 1, -5, -5);
        wayIs(fast, 3000000, 1, 1, 0, 13, -5);
        wayIs(fast, 4000000, 7, 1, 1, 7, -5);
        noWay(fast, 3600000, 1);
    }

    private static void depthAtMost6() {
        check.says("no depth greater than 6");
        ClockPlanner x = of(1);
        Check.lay(x, "0*7*7*7*7*7*7");
        wayIs(x, 117649, 1, 0, 6, -5, -5);
        noWay(x, 117649 * 2, 1);
        noWay(x, 117649, 2);
        wayIs(x, 16807 * 3, 1, 1, 5, 13, -5);
        wayIs(x, 16807, 3, 1, 5, 3, -5);
        noWay(x, 16807 * 10, 1);
        noWay(x, 16807, 10);
        wayIs(x, 2401 * 10, 1, 2, 4, 12, 15);
        wayIs(x, 2401, 10, 2, 4, 2, 5);
    }

    private static void noLeaf() {
        check.says("and the node is no leaf");
        ClockPlanner x = new ClockPlanner();
        x.leaf(0, 0, 0, 4000000, 1);
        x.add(0, 1, 2);
        x.leaf(2, 0, 0, 4000000, 1);
        wayIs(x, 1000, 1, 0, 0, -5, -5);
        wayIs(x, 500, 1, 0, 2, -5, -5);
        wayIs(x, 500, 7, 1, 2, 7, -5);
        ClockPlanner late = new ClockPlanner();
        late.add(0, 4, 0);
        late.leaf(0, 0, 0, 0, 1);
        late.add(1, 1, 2);
        late.leaf(3, 0, 0, 0, 1);
        wayIs(late, 1000, 1, 0, 0, -5, -5);
        wayIs(late, 500, 1, 0, 3, -5, -5);
    }

    private static void fewestNewOnes() {
        check.says("The cheapest way of all nodes is that with the fewest new ones");
        ClockPlanner x = new ClockPlanner();
        Check.lay(x, "0+1+2+3/2");
        wayIs(x, 500, 1, 0, 4, -5, -5);
        wayIs(x, 250, 1, 1, 0, 4, -5);
        wayIs(x, 1000, 14, 1, 4, 7, -5);
        wayIs(x, 1000, 12, 1, 4, 6, -5);
        wayIs(x, 1000, 15, 2, 0, 3, 5);
        wayIs(x, 1000, 28, 2, 0, 4, 7);
        wayIs(x, 1000, 98, 2, 4, 7, 7);
    }

    private static void lowestDepth() {
        check.says("of these that from the node with the lowest depth");
        ClockPlanner x = new ClockPlanner();
        x.add(0, 4, 0);
        x.add(1, 1, 2);
        x.add(0, 1, 2);
        wayIs(x, 500, 1, 0, 3, -5, -5);
        wayIs(x, 500, 7, 1, 3, 7, -5);
        wayIs(x, 500, 49, 2, 3, 7, 7);
        ClockPlanner row = new ClockPlanner();
        row.add(0, 4, 0);
        row.add(1, 1, 3);
        row.add(0, 1, 2);
        wayIs(row, 1000, 18, 1, 3, 9, -5);
    }

    private static void lowestNumber() {
        check.says("of these with the lowest number");
        ClockPlanner x = new ClockPlanner();
        x.add(0, 4, 0);
        x.add(0, 1, 2);
        x.add(0, 1, 2);
        wayIs(x, 1000, 1, 0, 0, -5, -5);
        wayIs(x, 500, 1, 0, 2, -5, -5);
        wayIs(x, 500, 7, 1, 2, 7, -5);
        wayIs(x, 500, 49, 2, 2, 7, 7);
        x.add(0, 1, 3);
        wayIs(x, 1000, 18, 1, 2, 9, -5);
        ClockPlanner other = new ClockPlanner();
        other.add(0, 1, 3);
        other.add(0, 1, 2);
        wayIs(other, 1000, 18, 1, 1, 6, -5);
    }

    private static void lowestRow() {
        check.says("and of these with the lowest row, where each new one counts as its number, and 10 more if it is a "
                + "multiplier, the first one first");
        ClockPlanner x = of(1);
        wayIs(x, 1, 12, 2, 0, 2, 6);
        wayIs(x, 1, 24, 2, 0, 3, 8);
        wayIs(x, 1, 36, 2, 0, 4, 9);
        wayIs(x, 1, 18, 2, 0, 2, 9);
        wayIs(x, 12, 1, 2, 0, 12, 16);
        wayIs(x, 24, 1, 2, 0, 13, 18);
        wayIs(x, 36, 1, 2, 0, 14, 19);
        wayIs(x, 3, 2, 2, 0, 2, 13);
        wayIs(x, 2, 3, 2, 0, 3, 12);
        wayIs(x, 4, 3, 2, 0, 3, 14);
        wayIs(x, 7, 5, 2, 0, 5, 17);
    }

    private static void anyNumberOfNodes() {
        check.says("The limit of 24 nodes does not matter for ways.");
        for (int nodes = 22; nodes <= 24; nodes++) {
            int full = nodes;
            ClockPlanner x = Twins.made(y -> Plans.fill(y, full));
            wayIs(x, 1000, 1, 0, 0, -5, -5);
            wayIs(x, 1000, 7, 1, 0, 7, -5);
            wayIs(x, 1000, 49, 2, 0, 7, 7);
        }
        ClockPlanner last = Twins.made(y -> Plans.fill(y, 23));
        check.due("the last node", last.add(0, 1, 7), 23);
        wayIs(last, 1000, 7, 0, 23, -5, -5);
        wayIs(last, 1000, 63, 1, 23, 9, -5);
        wayIs(last, 1000, 343, 2, 23, 7, 7);
    }

    private static void rangesBeforeTheWay() {
        check.says("Returns the number; -5 if there is no way; NONE if what is invalid; BAD if another number is out of "
                + "range.");
        ClockPlanner x = new ClockPlanner();
        for (int what : new int[] {Integer.MIN_VALUE, -1, 4, Integer.MAX_VALUE}) {
            check.due("NONE where there is a way", x.way(500, 1, what), -1);
            check.due("NONE where there is none", x.way(1, 1, what), -1);
            check.due("NONE before BAD", x.way(0, 1, what), -1);
            check.due("NONE before BAD", x.way(1, 0, what), -1);
        }
        for (int what = 0; what <= 3; what++) {
            check.due("above 0", x.way(0, 1, what), -2);
            check.due("above 4000001", x.way(4000001, 1, what), -2);
            check.due("above 4000001 of 4001", x.way(4001000, 4001, what), -2);
            check.due("below 0", x.way(1, 0, what), -2);
            check.due("below 10000", x.way(1, 10000, what), -2);
            check.due("below -1", x.way(1000, -1, what), -2);
            check.due("both negative", x.way(-1000, -1, what), -2);
            check.due("no way", x.way(1, 1, what), -5);
            check.due("no way at the ends", x.way(1, 9999, what), -5);
            check.due("no way at the ends", x.way(4000000, 9999, what), -5);
        }
        check.due("no reason is kept", x.reason(), -5);
    }

    private static void nothingChanges() {
        check.says("Returns a number of the cheapest way to a wanted rate.");
        for (int what = -1; what <= 4; what++) {
            int w = what;
            twins.unchanged("a way", Plans::richWithTape, x -> x.way(200, 7, w));
            twins.unchanged("no way", Plans::richWithTape, x -> x.way(1, 9999, w));
        }
        ClockPlanner x = new ClockPlanner();
        check.due("a way of two", x.way(1000, 49, 3), 7);
        check.due("then one of one", x.way(1000, 7, 3), -5);
        check.due("then one of none", x.way(1000, 1, 2), -5);
        check.due("then none", x.way(1, 1, 1), -5);
    }

    private static void whatDoesNotRun() {
        check.says("its rate is told all the same");
        ClockPlanner x = new ClockPlanner();
        Check.lay(x, "0g1/2");
        wayIs(x, 500, 1, 0, 2, -5, -5);
        wayIs(x, 500, 7, 1, 2, 7, -5);
    }
}
