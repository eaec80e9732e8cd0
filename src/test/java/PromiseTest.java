/** Each promise of the document by itself: ordinary inputs, the edges it names, and wrong inputs. */
public final class PromiseTest {
    private static final int LOW = Integer.MIN_VALUE;
    private static final int TOP = Integer.MAX_VALUE;

    private static final Check check = new Check();
    private static int promise = 0;

    private static void due(String call, long got, long want) {
        check.due("promise " + promise + ": " + call, got, want);
    }

    /** A refusal: STATE, and the reason behind it. */
    private static void refused(String call, ClockPlanner x, long got, int reason) {
        due(call, got, ClockPlanner.STATE);
        due(call + ", reason", x.reason(), reason);
    }

    public static void main(String[] args) {
        newObject();
        source();
        add();
        leaf();
        setting();
        tune();
        request();
        limit();
        remove();
        mend();
        shed();
        wouldShed();
        feed();
        layTexts();
        layParts();
        reason();
        rate();
        again();
        node();
        ofLeaf();
        ofGroup();
        power();
        way();
        ranked();
        account();
        back();
        image();
        undo();
        count();
        fullTree();
        allPlacesTaken();
        nothingIsLeftOfRemoved();
        check.end();
    }

    private static void newObject() {
        promise = 1;
        ClockPlanner x = new ClockPlanner();
        due("count(0)", x.count(0), 1);
        due("count(1)", x.count(1), 0);
        due("count(2)", x.count(2), 0);
        due("rate(0, 0)", x.rate(0, 0), 1000);
        due("rate(0, 1)", x.rate(0, 1), 1);
        due("reason()", x.reason(), -5);
        due("node(0, 0)", x.node(0, 0), 0);
        for (int group = 0; group < 4; group++) {
            due("ofGroup(.., 1)", x.ofGroup(group, 1), 999);
        }
        due("undo()", x.undo(), -3);
        due("back()", x.back(), -3);
    }

    private static void source() {
        promise = 2;
        ClockPlanner x = new ClockPlanner();
        due("source(1)", x.source(1), 1000);
        due("source(1000000)", x.source(1000000), 1);
        refused("source(0)", x, x.source(0), 4);
        refused("source(1000001)", x, x.source(1000001), 4);
        refused("source(LOW)", x, x.source(LOW), 4);
        refused("source(TOP)", x, x.source(TOP), 4);
        due("source(1000)", x.source(1000), 1000000);
        due("source(1000)", x.source(1000), 1000);
        due("a rate that stays is a change", x.count(2), 4);
        x.add(0, 2, 9);
        x.leaf(1, 0, 9000, 9000, 1);
        refused("source(444445)", x, x.source(444445), 5);
        refused("source(444444)", x, x.source(444444), 6);
        refused("source(999)", x, x.source(999), 6);
        due("rate(1, 0)", x.rate(1, 0), 9000);
        x.remove(2);
        x.leaf(1, 0, 0, 1, 1);
        due("source(444444)", x.source(444444), 1000);
        due("rate(1, 0)", x.rate(1, 0), 3999996);
    }

    private static void add() {
        promise = 3;
        ClockPlanner x = new ClockPlanner();
        due("add(0, 0, 1)", x.add(0, 0, 1), -1);
        due("add(0, 5, 1)", x.add(0, 5, 1), -1);
        due("add(7, -1, 99)", x.add(7, -1, 99), -1);
        due("NONE keeps no reason", x.reason(), -5);
        int[] least = {0, 1, 1, 0, 0};
        int[] most = {0, 9, 9, 4, 99};
        for (int kind = 1; kind <= 4; kind++) {
            refused("too little for " + kind, x, x.add(0, kind, least[kind] - 1), 4);
            refused("too much for " + kind, x, x.add(0, kind, most[kind] + 1), 4);
            due("least for " + kind, x.add(0, kind, least[kind]), 2 * kind - 1);
            due("most for " + kind, x.add(0, kind, most[kind]), 2 * kind);
        }
        due("node(8, 3)", x.node(8, 3), 99);
        due("node(2, 3)", x.node(2, 3), 0);
        refused("add(9, ..)", x, x.add(9, 1, 0), 1);
        refused("add(-1, ..)", x, x.add(-1, 1, 1), 1);
        x.leaf(0, 0, 0, 0, 1);
        refused("add below a leaf", x, x.add(9, 1, 1), 1);
        ClockPlanner deep = Twins.made(Plans::chain);
        refused("add(6, ..)", deep, deep.add(6, 1, 0), 2);
        due("add(5, ..)", deep.add(5, 1, 2), 7);
        ClockPlanner fast = new ClockPlanner();
        fast.source(1000000);
        refused("add(0, 2, 5)", fast, fast.add(0, 2, 5), 5);
        refused("add(0, 2, 10)", fast, fast.add(0, 2, 10), 4);
        due("add(0, 2, 4)", fast.add(0, 2, 4), 1);
        due("rate", fast.rate(1, 0), 4000000);
        due("add(1, 2, 1)", fast.add(1, 2, 1), 2);
        fast.tune(1, 1);
        fast.add(1, 1, 7);
        fast.add(3, 2, 4);
        refused("add(4, 2, 8)", fast, fast.add(4, 2, 8), 5);
        due("add(4, 2, 7)", fast.add(4, 2, 7), 5);
    }

    private static void leaf() {
        promise = 4;
        ClockPlanner x = new ClockPlanner();
        due("leaf(0, 4, ..)", x.leaf(0, 4, 0, 0, 1), -1);
        due("leaf(9, -1, ..)", x.leaf(9, -1, 5, 0, 0), -1);
        refused("no parent", x, x.leaf(1, 0, 5, 0, 0), 1);
        refused("low -1", x, x.leaf(0, 0, -1, 5, 1), 4);
        refused("high 4000001", x, x.leaf(0, 0, 0, 4000001, 1), 4);
        refused("low above high", x, x.leaf(0, 0, 6, 5, 1), 4);
        refused("priority 0", x, x.leaf(0, 0, 5, 5, 0), 4);
        refused("priority 10", x, x.leaf(0, 0, 5, 5, 10), 4);
        due("leaf that is not content", x.leaf(0, 3, 5, 5, 9), 1);
        due("leaf with all bounds", x.leaf(0, 0, 0, 4000000, 1), 2);
        refused("leaf below a leaf", x, x.leaf(1, 0, 0, 0, 1), 1);
        due("it requests", x.ofLeaf(1, 3), 1);
        due("its pad", x.ofLeaf(1, 4), 0);
        due("its group", x.node(1, 2), 3);
        ClockPlanner deep = Twins.made(Plans::chain);
        refused("leaf(6, ..)", deep, deep.leaf(6, 0, 1, 0, 1), 2);
        due("leaf(5, ..)", deep.leaf(5, 0, 0, 0, 1), 7);
        ClockPlanner many = new ClockPlanner();
        for (int i = 1; i <= 10; i++) {
            due("leaf " + i, many.leaf(0, 0, 0, 0, 1), i);
        }
        refused("leaf 11", many, many.leaf(0, 0, 1, 0, 1), 3);
        due("another node", many.add(0, 1, 1), 11);
    }

    private static void setting() {
        promise = 5;
        ClockPlanner x = new ClockPlanner();
        x.add(0, 4, 7);
        x.leaf(1, 0, 0, 0, 1);
        due("set(1, 2, 0)", x.set(1, 2, 0), -1);
        due("set(9, -1, 100)", x.set(9, -1, 100), -1);
        refused("set(3, 0, 100)", x, x.set(3, 0, 100), 1);
        refused("set(-1, 0, 0)", x, x.set(-1, 0, 0), 1);
        refused("set(1, 0, 100)", x, x.set(1, 0, 100), 4);
        refused("set(1, 0, -1)", x, x.set(1, 0, -1), 4);
        refused("set(1, 1, 10)", x, x.set(1, 1, 10), 4);
        refused("set(1, 1, -1)", x, x.set(1, 1, -1), 4);
        due("set(1, 0, 99)", x.set(1, 0, 99), 7);
        due("set(1, 0, 0)", x.set(1, 0, 0), 99);
        due("the delay with which it was added stays", x.node(1, 2), 7);
        due("set(2, 1, 9)", x.set(2, 1, 9), 0);
        due("set(2, 0, 5)", x.set(2, 0, 5), 0);
        due("set(2, 1, 9)", x.set(2, 1, 9), 9);
        due("set(0, 0, 3)", x.set(0, 0, 3), 0);
        due("arrival", x.node(2, 7), 8);
    }

    private static void tune() {
        promise = 6;
        ClockPlanner x = new ClockPlanner();
        x.add(0, 1, 2);
        x.add(1, 2, 3);
        x.add(2, 3, 4);
        x.add(3, 4, 5);
        x.leaf(4, 0, 1500, 1500, 1);
        due("the source", x.tune(0, 1), -1);
        due("a buffer", x.tune(4, 1), -1);
        due("a leaf", x.tune(5, 1), -1);
        due("NONE keeps no reason", x.reason(), -5);
        refused("no such node", x, x.tune(6, 1), 1);
        refused("no such node", x, x.tune(-1, 99), 1);
        refused("divider by 0", x, x.tune(1, 0), 4);
        refused("divider by 10", x, x.tune(1, 10), 4);
        refused("multiplier by 0", x, x.tune(2, 0), 4);
        refused("gate with rule 5", x, x.tune(3, 5), 4);
        refused("gate with rule -1", x, x.tune(3, -1), 4);
        refused("a leaf would not be content", x, x.tune(1, 3), 6);
        due("a number that stays", x.tune(1, 2), 2);
        due("a rule", x.tune(3, 0), 4);
        due("a rule", x.tune(3, 2), 0);
        x.remove(5);
        due("divider", x.tune(1, 9), 2);
        due("rate", x.rate(4, 0), 1000);
        due("rate", x.rate(4, 1), 3);
        ClockPlanner fast = new ClockPlanner();
        fast.source(1000000);
        fast.add(0, 1, 9);
        fast.add(1, 2, 9);
        fast.leaf(2, 0, 1000000, 1000000, 1);
        refused("5 before 6", fast, fast.tune(1, 2), 5);
        refused("6", fast, fast.tune(1, 3), 6);
        refused("6", fast, fast.tune(2, 8), 6);
        due("rate", fast.rate(3, 0), 1000000);
    }

    private static void request() {
        promise = 7;
        ClockPlanner x = Plans.gated(2, 2);
        x.add(0, 3, 0);
        x.add(0, 3, 3);
        due("no leaf", x.request(1, 0), -1);
        due("no node", x.request(9, 5), -1);
        due("no node", x.request(-1, 0), -1);
        due("is 2", x.request(2, 2), -2);
        due("is -1", x.request(2, -1), -2);
        due("one does not", x.request(2, 0), 2);
        due("none does", x.request(3, 0), 1);
        due("one does", x.request(2, 1), 2);
        due("ofLeaf", x.ofLeaf(3, 3), 0);
        int[][] open = {{1, 1, 1, 1}, {0, 0, 0, 0}, {0, 1, 1, 1}, {0, 0, 0, 1}, {0, 0, 1, 1}};
        for (int rule = 0; rule <= 4; rule++) {
            ClockPlanner y = Plans.gated(rule, 3);
            for (int n = 2; n <= 4; n++) {
                y.request(n, 0);
            }
            due("rule " + rule + " with 0 of 3", y.account(8), open[rule][0]);
            for (int n = 2; n <= 4; n++) {
                due("rule " + rule + " with " + (n - 1) + " of 3", y.request(n, 1), open[rule][n - 1]);
                due("the leaf runs", y.node(n, 6), open[rule][n - 1]);
            }
            ClockPlanner none = Plans.gated(rule, 0);
            due("rule " + rule + " without leaves", none.account(8), rule == 0 ? 1 : 0);
        }
        ClockPlanner even = Plans.gated(4, 2);
        due("as many as not", even.request(2, 0), 0);
        ClockPlanner nested = new ClockPlanner();
        nested.add(0, 3, 1);
        nested.add(1, 3, 2);
        nested.leaf(2, 0, 0, 0, 1);
        due("open below one that is not", nested.request(3, 1), 1);
        due("it does not run", nested.node(2, 6), 0);
    }

    private static void limit() {
        promise = 8;
        ClockPlanner x = Plans.gated(0, 2);
        x.set(2, 0, 20);
        due("group 4", x.limit(4, 1000), -1);
        due("group -1", x.limit(-1, 0), -1);
        due("limit -1", x.limit(0, -1), -2);
        due("limit 1000", x.limit(0, 1000), -2);
        due("limit 19", x.limit(0, 19), 0);
        due("account(11)", x.account(11), 1);
        due("limit 20", x.limit(0, 20), 1);
        due("limit 999", x.limit(3, 999), 1);
        due("limit 0", x.limit(3, 0), 1);
        due("ofGroup(3, 1)", x.ofGroup(3, 1), 0);
    }

    private static void remove() {
        promise = 9;
        ClockPlanner x = new ClockPlanner();
        x.add(0, 1, 2);
        x.add(0, 2, 2);
        x.add(2, 4, 3);
        x.leaf(3, 2, 5, 6, 7);
        x.set(4, 1, 8);
        due("the source", x.remove(0), -1);
        refused("no node", x, x.remove(5), 1);
        refused("no node", x, x.remove(-1), 1);
        refused("children", x, x.remove(2), 7);
        due("remove(1)", x.remove(1), 4);
        due("its kind now", x.node(1, 0), 2);
        due("parent of the buffer", x.node(2, 1), 1);
        due("parent of the leaf", x.node(3, 1), 2);
        due("parent of the multiplier", x.node(1, 1), 0);
        due("low", x.ofLeaf(3, 0), 5);
        due("high", x.ofLeaf(3, 1), 6);
        due("priority", x.ofLeaf(3, 2), 7);
        due("load", x.node(3, 4), 8);
        due("remove(3)", x.remove(3), 3);
        due("remove(2)", x.remove(2), 2);
        due("remove(1)", x.remove(1), 1);
    }

    private static void mend() {
        promise = 10;
        ClockPlanner x = Plans.gated(0, 3);
        x.add(0, 3, 1);
        x.leaf(5, 0, 0, 0, 1);
        x.set(2, 0, 50);
        x.set(3, 0, 10);
        x.set(4, 0, 45);
        due("group 4", x.mend(4), -1);
        due("group -1", x.mend(-1), -1);
        int changes = x.count(2);
        due("no need", x.mend(0), 0);
        due("that is a change", x.count(2), Math.min(6, changes + 1));
        x.limit(0, 5);
        due("ofGroup(0, 4)", x.ofGroup(0, 4), 35);
        due("mend(0)", x.mend(0), 35);
        due("pad", x.ofLeaf(3, 4), 35);
        due("pad of one that is in time", x.ofLeaf(4, 4), 0);
        due("pad of one that does not run", x.ofLeaf(6, 4), 0);
        due("skew", x.ofGroup(0, 0), 5);
        due("empty group", x.mend(2), 0);
        ClockPlanner y = Plans.gated(0, 2);
        y.set(2, 0, 99);
        y.limit(0, 0);
        due("a pad of 99", y.mend(0), 99);
        y.add(0, 4, 1);
        y.leaf(4, 0, 0, 0, 1);
        y.set(5, 0, 99);
        refused("a pad of 100", y, y.mend(0), 8);
        due("pads stay", y.account(9), 99);
        due("ofGroup(0, 4)", y.ofGroup(0, 4), -5);
    }

    private static void shed() {
        promise = 11;
        ClockPlanner x = Plans.gated(2, 2);
        x.set(1, 1, 5);
        x.set(0, 1, 1);
        due("budget -1", x.shed(-1), -2);
        due("budget 2000000001", x.shed(2000000001), -2);
        refused("999", x, x.shed(999), 9);
        due("all still request", x.node(0, 10), 2);
        due("6000", x.shed(6000), 0);
        due("an empty set is a change", x.count(2), 6);
        due("5999", x.shed(5999), 2);
        due("none requests", x.node(0, 10), 0);
        due("power", x.power(-1), 1000);
        due("back()", x.back(), 5);
        due("all request again", x.node(0, 10), 2);
        due("2000000000", x.shed(2000000000), 0);
    }

    private static void wouldShed() {
        promise = 12;
        ClockPlanner x = Plans.gated(3, 3);
        x.set(1, 1, 5);
        due("budget -1", x.wouldShed(-1), -2);
        due("budget 2000000001", x.wouldShed(2000000001), -2);
        due("5000", x.wouldShed(5000), 0);
        due("the lowest bits", x.wouldShed(4999), 4);
        x.request(2, 0);
        due("no longer open", x.wouldShed(0), 0);
        x.request(2, 1);
        x.set(0, 1, 1);
        due("no set is enough", x.wouldShed(999), -5);
        due("that is no refusal", x.reason(), -5);
        due("nothing changes", x.node(0, 10), 3);
        ClockPlanner fewest = new ClockPlanner();
        fewest.add(0, 3, 2);
        fewest.leaf(1, 0, 0, 0, 1);
        fewest.leaf(1, 0, 0, 0, 2);
        fewest.add(0, 3, 2);
        fewest.leaf(4, 0, 0, 0, 3);
        fewest.set(1, 1, 1);
        fewest.set(4, 1, 1);
        due("of the same priority the fewest leaves", fewest.wouldShed(1000), 1 << 5);
        due("both", fewest.wouldShed(0), 1 << 2 | 1 << 3 | 1 << 5);
        ClockPlanner inner = new ClockPlanner();
        inner.add(0, 3, 4);
        inner.add(1, 3, 3);
        inner.leaf(2, 0, 0, 0, 9);
        inner.leaf(1, 0, 0, 0, 1);
        inner.leaf(1, 0, 0, 0, 1);
        inner.set(2, 1, 1);
        due("the outer gate closes the inner one", inner.wouldShed(0), 1 << 4 | 1 << 5);
    }

    private static void feed() {
        promise = 13;
        ClockPlanner x = new ClockPlanner();
        due("n 0", x.feed(0, 0, 0, 0, 0, 0), -2);
        due("n 6", x.feed(6, 0, 0, 0, 0, 0), -2);
        due("a 128", x.feed(1, 128, 0, 0, 0, 0), -2);
        due("a -1", x.feed(1, -1, 0, 0, 0, 0), -2);
        due("b 128, not appended", x.feed(1, 0, 128, 0, 0, 0), -2);
        due("c -1, not appended", x.feed(1, 0, 0, -1, 0, 0), -2);
        due("d 128, not appended", x.feed(1, 0, 0, 0, 128, 0), -2);
        due("e 128, not appended", x.feed(1, 0, 0, 0, 0, 128), -2);
        due("nothing appended", x.count(1), 0);
        due("n 1", x.feed(1, 48, 127, 127, 127, 127), 1);
        due("n 3", x.feed(3, 127, 0, 48, 0, 0), 4);
        for (int length = 9; length <= 39; length += 5) {
            due("n 5", x.feed(5, 48, 48, 48, 48, 48), length);
        }
        due("one more than 40", x.feed(2, 48, 48, 48, 48, 48), -4);
        due("BAD before FULL", x.feed(5, 48, 48, 48, 48, 128), -2);
        due("just 40", x.feed(1, 48, 48, 48, 48, 48), 40);
        due("41", x.feed(1, 48, 48, 48, 48, 48), -4);
        due("count(1)", x.count(1), 40);
        due("lay()", x.lay(), -101);
        due("the tape is empty", x.count(1), 0);
    }

    private static void layTexts() {
        promise = 14;
        String[] wrong = {"", "x", "/2", "-1", "0/", "0/0", "0*", "0*0", "0g", "0g5", "0+", "0+x", "0.", "0.4",
            "0.0", "0.0:", "0.0:1", "0.0:1-", "0.0:1-2/2", "0.0:1-2.", "0/22", "0g00", "12345678", "0+12345678",
            "0.0:12345678", "0.0:1-12345678", "0G2", "0 ", "0.0-1:2", "0/2.", "0+1-2", "00000000"};
        int[] at = {0, 0, 0, 0, 2, 2, 2, 2, 2, 2, 2, 2, 2, 2,
            3, 4, 5, 6, 7, 7, 3, 3, 7, 9,
            11, 13, 1, 1, 3, 4, 3, 7};
        for (int i = 0; i < wrong.length; i++) {
            ClockPlanner x = new ClockPlanner();
            due("'" + wrong[i] + "'", Check.lay(x, wrong[i]), -100 - at[i]);
            due("no reason", x.reason(), -5);
            due("no change", x.count(2), 0);
            due("no bytes", x.count(1), 0);
        }
    }

    private static void layParts() {
        promise = 14;
        ClockPlanner x = new ClockPlanner();
        due("0", Check.lay(x, "0000000"), 0);
        due("that is a change", x.count(2), 1);
        due("1", Check.lay(x, "1"), -200);
        due("reason", x.reason(), 1);
        due("new ones", Check.lay(x, "0/2*3g4+0099.3:0000000-4000000"), 5);
        due("buffer", x.node(4, 3), 99);
        due("leaf", x.node(5, 2), 3);
        due("priority", x.ofLeaf(5, 2), 1);
        due("one change", x.count(2), 2);
        due("known ones", Check.lay(x, "1*3g4+99"), 0);
        x.set(4, 0, 5);
        due("a buffer is known by the delay it was added with", Check.lay(x, "3+99"), 0);
        due("a new buffer", Check.lay(x, "3+5"), 1);
        due("a leaf is always new", Check.lay(x, "4.3:0-4000000"), 1);
        due("a leaf alone", Check.lay(x, "5"), 0);
        due("a step from a leaf", Check.lay(x, "5+100"), -201);
        due("reason", x.reason(), 1);
        due("a leaf from a leaf", Check.lay(x, "5.0:2-1"), -201);
        due("reason", x.reason(), 1);
        due("a delay of 100", Check.lay(x, "0/2+100"), -202);
        due("reason", x.reason(), 4);
        due("bounds", Check.lay(x, "0/2/2.0:2-1"), -203);
        due("reason", x.reason(), 4);
        due("bounds", Check.lay(x, "0.0:0-4000001"), -201);
        due("reason", x.reason(), 4);
        due("nothing is laid", x.count(0), 8);
        x.tune(1, 3);
        due("a number that was tuned", Check.lay(x, "0/3"), 0);
        due("and the one before", Check.lay(x, "0/2"), 1);
        due("too deep before out of range", Check.lay(x, "0+1+1+1+1+1+1+9999999"), -207);
        due("reason", x.reason(), 2);
        due("too deep for a leaf", Check.lay(x, "0+1+1+1+1+1+1.0:1-0"), -207);
        due("reason", x.reason(), 2);
        due("too fast", Check.lay(x, "0*8*8*8*8"), -204);
        due("reason", x.reason(), 5);
        due("nothing is laid", x.count(0), 9);
        due("the latest change is the last that was laid", x.back(), 5);
        due("count(0)", x.count(0), 8);
        due("bytes of an earlier text do not count", Check.lay(x, "0/"), -102);
        due("nor do these", Check.lay(x, "0"), 0);
        due("wrong at its end", Check.lay(x, "0.0:1-2x"), -107);
        due("nor do the signs of a leaf", Check.lay(x, "0.0"), -103);
        ClockPlanner two = new ClockPlanner();
        two.add(0, 1, 5);
        two.add(0, 1, 5);
        Check.lay(two, "0/5*2");
        due("of several the lowest one", two.node(3, 1), 1);
    }

    private static void reason() {
        promise = 15;
        ClockPlanner x = new ClockPlanner();
        due("none", x.reason(), -5);
        x.back();
        x.undo();
        x.wouldShed(-1);
        due("none yet", x.reason(), -5);
        x.image();
        x.source(0);
        due("4", x.reason(), 4);
        x.source(5);
        due("a success keeps it", x.reason(), 4);
        x.undo();
        due("undo keeps it", x.reason(), 4);
        x.remove(9);
        due("1", x.reason(), 1);
    }

    private static void rate() {
        promise = 16;
        ClockPlanner x = new ClockPlanner();
        Check.lay(x, "0/9/9*6/7*3");
        long[] tops = {1000, 1000, 1000, 2000, 2000, 2000};
        long[] bottoms = {1, 9, 81, 27, 189, 63};
        for (int n = 0; n < 6; n++) {
            due("top", x.rate(n, 0), tops[n]);
            due("bottom", x.rate(n, 1), bottoms[n]);
        }
        due("part 2", x.rate(0, 2), -1);
        due("part -1", x.rate(0, -1), -1);
        due("node 6", x.rate(6, 0), -1);
        due("node -1", x.rate(-1, 0), -1);
        ClockPlanner small = new ClockPlanner();
        small.source(1);
        Check.lay(small, "0/9/9/9/9/9/9");
        due("the greatest denominator", small.rate(6, 1), 531441);
        due("its numerator", small.rate(6, 0), 1);
        small.add(0, 3, 1);
        due("of what does not run", small.rate(7, 0), 1);
    }

    private static void again() {
        promise = 17;
        ClockPlanner x = new ClockPlanner();
        x.source(999999);
        Check.lay(x, "0/9*2/7*3/8*9");
        Check.lay(x, "3g1+5.0:0-0");
        for (int n = 0; n < x.count(0); n++) {
            due("top", x.again(n, 0), x.rate(n, 0));
            due("bottom", x.again(n, 1), x.rate(n, 1));
        }
        due("the node itself counts", x.again(1, 0), 111111);
        due("part 2", x.again(0, 2), -1);
        due("part -1", x.again(0, -1), -1);
        due("no node", x.again(x.count(0), 0), -1);
        due("no node", x.again(-1, 0), -1);
    }

    private static void node() {
        promise = 18;
        ClockPlanner x = new ClockPlanner();
        Check.lay(x, "0/2*3g2+7.1:0-5");
        x.leaf(3, 2, 0, 0, 1);
        x.request(6, 0);
        x.set(0, 0, 4);
        x.set(3, 1, 6);
        x.limit(1, 0);
        int[][] due = {
            {0, -5, 0, 4, 0, 0, 1, 4, 1, 2, 1},
            {1, 0, 2, 0, 0, 1, 1, 4, 1, 2, 1},
            {2, 1, 3, 0, 0, 2, 1, 4, 1, 2, 1},
            {3, 2, 2, 0, 6, 3, 1, 4, 2, 2, 1},
            {4, 3, 7, 7, 0, 4, 1, 11, 1, 1, 1},
            {5, 4, 1, 0, 0, 5, 1, 11, 0, 0, 0},
            {5, 3, 2, 0, 0, 4, 1, 4, 0, 0, 0}};
        for (int n = 0; n < due.length; n++) {
            for (int what = 0; what <= 10; what++) {
                due("node(" + n + ", " + what + ")", x.node(n, what), due[n][what]);
            }
            due("what 11", x.node(n, 11), -1);
            due("what -1", x.node(n, -1), -1);
        }
        due("node 7", x.node(7, 0), -1);
        due("node -1", x.node(-1, 0), -1);
        x.request(5, 0);
        due("the gate", x.node(3, 6), 0);
        due("below the gate", x.node(4, 6), 0);
        due("above the gate", x.node(2, 6), 1);
    }

    private static void ofLeaf() {
        promise = 19;
        ClockPlanner x = new ClockPlanner();
        x.add(0, 1, 3);
        x.leaf(1, 0, 333, 334, 6);
        x.leaf(1, 0, 334, 400, 1);
        x.leaf(1, 0, 0, 333, 1);
        x.leaf(0, 0, 1000, 1000, 1);
        int[] due = {333, 334, 6, 1, 0, 1};
        for (int what = 0; what <= 5; what++) {
            due("ofLeaf(2, " + what + ")", x.ofLeaf(2, what), due[what]);
        }
        due("1000/3 is below 334", x.ofLeaf(3, 5), 0);
        due("1000/3 is above 333", x.ofLeaf(4, 5), 0);
        due("bounds count", x.ofLeaf(5, 5), 1);
        due("what 6", x.ofLeaf(2, 6), -1);
        due("what -1", x.ofLeaf(2, -1), -1);
        due("no leaf", x.ofLeaf(1, 0), -1);
        due("no node", x.ofLeaf(6, 0), -1);
        due("no node", x.ofLeaf(-1, 0), -1);
    }

    private static void ofGroup() {
        promise = 20;
        ClockPlanner x = Plans.gated(0, 3);
        x.add(0, 3, 1);
        x.leaf(5, 0, 0, 0, 1);
        x.set(6, 0, 99);
        x.set(3, 0, 9);
        x.set(4, 0, 9);
        x.limit(0, 4);
        int[] due = {9, 4, 4, 3, 5, 3, 2};
        for (int what = 0; what <= 6; what++) {
            due("ofGroup(0, " + what + ")", x.ofGroup(0, what), due[what]);
        }
        int[] empty = {0, 999, 0, 0, 0, -5, -5};
        for (int what = 0; what <= 6; what++) {
            due("ofGroup(1, " + what + ")", x.ofGroup(1, what), empty[what]);
        }
        due("what 7", x.ofGroup(0, 7), -1);
        due("what -1", x.ofGroup(0, -1), -1);
        due("group 4", x.ofGroup(4, 0), -1);
        due("group -1", x.ofGroup(-1, 0), -1);
        x.set(2, 0, 9);
        due("of several the lowest one is the latest", x.ofGroup(0, 5), 2);
        due("and the earliest", x.ofGroup(0, 6), 2);
        x.leaf(0, 3, 0, 0, 1);
        due("one leaf is the latest", x.ofGroup(3, 5), 7);
        due("and the earliest", x.ofGroup(3, 6), 7);
        due("without skew", x.ofGroup(3, 0), 0);
    }

    private static void power() {
        promise = 21;
        ClockPlanner x = Plans.gated(2, 1);
        x.add(1, 1, 3);
        x.set(3, 1, 2);
        x.set(2, 1, 9);
        due("rounded down", x.power(3), 666);
        due("of a leaf", x.power(2), 9000);
        due("of all", x.power(-1), 9666);
        due("without a load", x.power(0), 0);
        x.request(2, 0);
        due("of what does not run", x.power(3), 0);
        due("of all", x.power(-1), 0);
        due("no node", x.power(4), -1);
        due("no node", x.power(-2), -1);
        ClockPlanner each = new ClockPlanner();
        for (int n = 1; n <= 3; n++) {
            each.add(0, 1, 3);
            each.set(n, 1, 1);
        }
        due("each one is rounded down", each.power(-1), 999);
    }

    private static void wayIs(ClockPlanner x, int above, int below, int[] due) {
        for (int what = 0; what < 4; what++) {
            due("way(" + above + ", " + below + ", " + what + ")", x.way(above, below, what), due[what]);
        }
    }

    private static void way() {
        promise = 22;
        ClockPlanner x = new ClockPlanner();
        due("what 4 before BAD", x.way(0, 0, 4), -1);
        due("what -1", x.way(1, 1, -1), -1);
        due("above 0", x.way(0, 1, 0), -2);
        due("above 4000001", x.way(4000001, 1, 0), -2);
        due("below 0", x.way(1, 0, 0), -2);
        due("below 10000", x.way(1, 10000, 0), -2);
        wayIs(x, 1000, 1, new int[] {0, 0, -5, -5});
        wayIs(x, 2000, 2, new int[] {0, 0, -5, -5});
        wayIs(x, 500, 1, new int[] {1, 0, 2, -5});
        wayIs(x, 9000, 1, new int[] {1, 0, 19, -5});
        wayIs(x, 3000, 2, new int[] {2, 0, 2, 13});
        wayIs(x, 250, 1, new int[] {1, 0, 4, -5});
        wayIs(x, 1000, 12, new int[] {2, 0, 2, 6});
        wayIs(x, 12000, 1, new int[] {2, 0, 12, 16});
        wayIs(x, 81000, 1, new int[] {2, 0, 19, 19});
        wayIs(x, 1000, 90, new int[] {-5, -5, -5, -5});
        wayIs(x, 1000, 9999, new int[] {-5, -5, -5, -5});
        wayIs(x, 1000, 11, new int[] {-5, -5, -5, -5});
        wayIs(x, 1000, 128, new int[] {-5, -5, -5, -5});
        x.leaf(0, 0, 0, 0, 1);
        x.add(0, 1, 2);
        x.add(0, 1, 2);
        x.add(2, 1, 2);
        wayIs(x, 500, 1, new int[] {0, 2, -5, -5});
        wayIs(x, 125, 1, new int[] {1, 0, 8, -5});
        wayIs(x, 1000, 22, new int[] {-5, -5, -5, -5});
        wayIs(x, 1000, 14, new int[] {1, 2, 7, -5});
        ClockPlanner fast = new ClockPlanner();
        fast.source(1000000);
        wayIs(fast, 4000000, 1, new int[] {1, 0, 14, -5});
        wayIs(fast, 3000000, 2, new int[] {2, 0, 2, 13});
        wayIs(fast, 1250000, 1, new int[] {2, 0, 4, 15});
        wayIs(fast, 3500000, 1, new int[] {2, 0, 2, 17});
        ClockPlanner deep = new ClockPlanner();
        deep.source(1);
        Check.lay(deep, "0/5/5/5/5/5");
        wayIs(deep, 2, 1875, new int[] {2, 4, 3, 12});
        wayIs(deep, 1, 9375, new int[] {1, 5, 3, -5});
        wayIs(deep, 2, 9375, new int[] {-5, -5, -5, -5});
    }

    private static void ranked() {
        promise = 23;
        ClockPlanner x = new ClockPlanner();
        x.add(0, 1, 2);
        x.add(0, 2, 2);
        x.add(1, 2, 4);
        x.leaf(1, 0, 0, 0, 1);
        x.add(0, 1, 3);
        int[] due = {2, 3, 0, 1, 4, 5};
        for (int i = 0; i < 6; i++) {
            due("ranked(" + i + ")", x.ranked(i), due[i]);
        }
        due("ranked(6)", x.ranked(6), -1);
        due("ranked(-1)", x.ranked(-1), -1);
    }

    private static void account() {
        promise = 24;
        ClockPlanner x = new ClockPlanner();
        Check.lay(x, "0/2/3*4g2+6.1:0-4000000");
        Check.lay(x, "0g1+1.0:0-1");
        x.leaf(0, 1, 5, 6, 2);
        x.limit(1, 2);
        int[] due = {1, 2, 1, 2, 2, 3, 8, 1, 1, 0, 6, 2};
        for (int what = 0; what <= 11; what++) {
            due("account(" + what + ")", x.account(what), due[what]);
        }
        x.mend(1);
        due("pads", x.account(9), 4);
        due("groups", x.account(11), 0);
        due("what 12", x.account(12), -1);
        due("what -1", x.account(-1), -1);
    }

    private static void back() {
        promise = 25;
        ClockPlanner x = new ClockPlanner();
        due("none", x.back(), -3);
        for (int i = 1; i <= 8; i++) {
            x.source(i);
            due("changes", x.count(2), Math.min(i, 6));
        }
        Check.feed(x, "0/2");
        for (int i = 5; i >= 0; i--) {
            due("back()", x.back(), i);
            due("rate", x.rate(0, 0), i + 2);
        }
        due("none", x.back(), -3);
        due("that has no reason", x.reason(), -5);
        due("the tape stays", x.count(1), 3);
        due("lay", x.lay(), 1);
        x.leaf(1, 2, 0, 0, 3);
        x.set(2, 0, 8);
        x.limit(2, 1);
        x.request(2, 0);
        x.tune(1, 3);
        due("back()", x.back(), 5);
        due("number", x.node(1, 2), 2);
        due("back()", x.back(), 4);
        due("request", x.ofLeaf(2, 3), 1);
        due("back()", x.back(), 3);
        due("limit", x.ofGroup(2, 1), 999);
        due("back()", x.back(), 2);
        due("delay", x.node(2, 3), 0);
        due("a change behind it", x.set(2, 1, 4), 0);
        due("changes", x.count(2), 3);
        due("a refusal is none", x.set(2, 1, 10), -3);
        due("changes", x.count(2), 3);
        due("back()", x.back(), 2);
        due("load", x.node(2, 4), 0);
        due("back()", x.back(), 1);
        due("nodes", x.count(0), 2);
        due("back()", x.back(), 0);
        due("nodes", x.count(0), 1);
        ClockPlanner gone = Plans.gated(0, 1);
        gone.remove(2);
        due("back()", gone.back(), 2);
        due("the leaf is there again", gone.ofLeaf(2, 1), 4000000);
    }

    private static void image() {
        promise = 26;
        ClockPlanner x = new ClockPlanner();
        due("image()", x.image(), 1);
        x.add(0, 1, 2);
        due("image() again", x.image(), 2);
        due("it is no change", x.count(2), 1);
        due("back()", x.back(), 0);
        due("the snapshot stays", x.undo(), 2);
        due("number", x.node(1, 2), 2);
    }

    private static void undo() {
        promise = 27;
        ClockPlanner x = Plans.gated(2, 2);
        due("none", x.undo(), -3);
        due("that has no reason", x.reason(), -5);
        x.limit(0, 7);
        x.source(77);
        x.image();
        x.source(78);
        x.limit(0, 8);
        x.remove(3);
        x.request(2, 0);
        Check.feed(x, "0");
        due("undo()", x.undo(), 4);
        due("rate", x.rate(0, 0), 77);
        due("limit", x.ofGroup(0, 1), 7);
        due("request", x.ofLeaf(2, 3), 1);
        due("the gate is open", x.account(8), 1);
        due("no changes", x.count(2), 0);
        due("back()", x.back(), -3);
        due("the tape stays", x.count(1), 1);
        x.source(5);
        due("undo() again", x.undo(), 4);
        due("rate", x.rate(0, 0), 77);
    }

    private static void count() {
        promise = 28;
        ClockPlanner x = new ClockPlanner();
        x.add(0, 1, 2);
        x.source(3);
        x.limit(0, 3);
        Check.feed(x, "0/2*3g4");
        due("nodes", x.count(0), 2);
        due("bytes", x.count(1), 7);
        due("changes", x.count(2), 3);
        due("what 3", x.count(3), -1);
        due("what -1", x.count(-1), -1);
    }

    private static void fullTree() {
        promise = 3;
        ClockPlanner x = new ClockPlanner();
        for (int n = 1; n <= 23; n++) {
            due("add", x.add(0, 3, 0), n);
        }
        refused("a 25th node", x, x.add(0, 1, 0), 3);
        refused("a 25th node that is a leaf", x, x.leaf(0, 0, 1, 0, 0), 3);
        refused("no parent first", x, x.add(24, 1, 0), 1);
        due("a path", Check.lay(x, "0g0g0"), -202);
        due("reason", x.reason(), 3);
        due("ways do not mind", x.way(1000, 7, 0), 1);
        due("remove(23)", x.remove(23), 23);
        due("add again", x.add(22, 1, 7), 23);
        due("remove(1)", x.remove(1), 23);
        due("parent", x.node(22, 1), 21);
    }

    /** 24 nodes of which 10 are leaves, and every question there is. */
    private static void allPlacesTaken() {
        promise = 24;
        ClockPlanner x = new ClockPlanner();
        for (int n = 1; n <= 13; n++) {
            due("add", x.add(0, 3, 2), n);
        }
        for (int n = 14; n <= 23; n++) {
            due("leaf", x.leaf(n - 13, n % 4, 0, 2000, 1), n);
            x.set(n, 0, n);
            x.set(n, 1, 1);
        }
        due("power", x.power(-1), 10000);
        due("wouldShed", x.wouldShed(5000), 0x1f << 14);
        due("nothing runs but the source", x.wouldShed(0), 0x3ff << 14);
        due("running nodes", x.account(6), 21);
        due("content leaves", x.account(7), 10);
        due("open gates", x.account(8), 10);
        due("depth", x.account(10), 2);
        due("skews", x.account(11), 0);
        due("ranked(23)", x.ranked(23), 23);
        due("way", x.way(1, 9999, 0), -5);
        due("latest", x.ofGroup(2, 5), 22);
        due("earliest", x.ofGroup(2, 6), 14);
        x.limit(2, 3);
        due("mend", x.mend(2), 6);
        due("pads", x.account(9), 6);
        due("source", x.source(1001), 1000);
        due("shed", x.shed(9009), 1);
        due("removed", x.remove(23), 23);
        due("back", x.back(), 5);
        due("group of the last", x.node(23, 2), 3);
    }

    private static void nothingIsLeftOfRemoved() {
        promise = 9;
        ClockPlanner x = Plans.gated(0, 2);
        x.set(2, 0, 50);
        x.limit(0, 10);
        x.set(2, 1, 9);
        x.set(3, 1, 9);
        due("mend", x.mend(0), 40);
        due("remove", x.remove(3), 3);
        due("pads", x.account(9), 0);
        due("leaves", x.account(5), 1);
        due("running", x.account(6), 3);
        due("content", x.account(7), 1);
        due("power", x.power(-1), 9000);
        due("would shed", x.wouldShed(8999), -5);
        due("would shed", x.wouldShed(9000), 0);
        due("of the group", x.ofGroup(0, 2), 1);
        due("latest", x.ofGroup(0, 5), 2);
        due("earliest", x.ofGroup(0, 6), 2);
        due("ranked(2)", x.ranked(2), 2);
        due("a new node has no pad", x.leaf(1, 0, 0, 0, 1), 3);
        due("pad", x.ofLeaf(3, 4), 0);
        due("load", x.node(3, 4), 0);
        due("remove", x.remove(3), 3);
        due("remove", x.remove(2), 2);
        due("the depth", x.account(10), 1);
        due("remove", x.remove(1), 1);
        due("the depth", x.account(10), 0);
        due("gates", x.account(8), 0);
        due("a way from what is left", x.way(1000, 3, 1), 0);
    }
}
