/** Trees that several tests begin with. */
final class Plans {
    private Plans() {
    }

    /** The source, and buffers down to depth 6 with the numbers 1 to 6. */
    static void chain(ClockPlanner x) {
        for (int i = 0; i < 6; i++) {
            x.add(i, 4, 0);
        }
    }

    /** The source, buffers down to depth 5, and a leaf at depth 6 with the number 6. */
    static void chainWithLeaf(ClockPlanner x) {
        for (int i = 0; i < 5; i++) {
            x.add(i, 4, 0);
        }
        x.leaf(5, 0, 0, 4000000, 1);
    }

    /** The source, and a gate with a rule above some leaves of group 0, from node 2 on. */
    static ClockPlanner gated(int rule, int leaves) {
        ClockPlanner x = new ClockPlanner();
        x.add(0, 3, rule);
        for (int i = 0; i < leaves; i++) {
            x.leaf(1, 0, 0, 4000000, 1);
        }
        return x;
    }

    /** More buffers below the source, until there are as many nodes as wanted. */
    static void fill(ClockPlanner x, int nodes) {
        for (int n = x.count(0); n < nodes; n++) {
            x.add(0, 4, 0);
        }
    }

    /** More leaves below the source, until there are as many as wanted. */
    static void fillLeaves(ClockPlanner x, int leaves) {
        for (int n = x.account(5); n < leaves; n++) {
            x.leaf(0, 3, 0, 4000000, 1);
        }
    }

    /**
     * Something of everything: nodes of each kind (1 divider, 2 multiplier, 3 gate, 4 buffer, 5 and
     * 6 leaves, 7 buffer), delays, loads, a pad, a leaf that does not request, a limit, a snapshot
     * of another tree, a reason, and four changes. The tape is empty.
     */
    static void rich(ClockPlanner x) {
        x.source(1200);
        Check.lay(x, "0/2*3g2+7.1:1-3999999");
        x.leaf(3, 1, 0, 10, 4);
        x.set(4, 1, 3);
        x.set(5, 1, 2);
        x.set(6, 1, 9);
        x.set(0, 0, 11);
        x.image();
        x.limit(1, 5);
        x.mend(1);
        x.request(5, 0);
        x.undo();
        x.remove(99);
        x.limit(1, 4);
        x.mend(1);
        x.add(0, 4, 8);
        x.request(6, 0);
    }

    /** The same, and a path on the tape. */
    static void richWithTape(ClockPlanner x) {
        rich(x);
        Check.feed(x, "0/7*2");
    }
}
