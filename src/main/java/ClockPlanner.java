/**
 * A planner for clock trees: rates as exact fractions, dividers and multipliers that are shared,
 * gates with rules and requests, arrivals and skews by groups, padding that mends them, power
 * budgets that leaves are shed for, a search for the cheapest way to a wanted rate, paths as texts,
 * reasons, accounts that add up, changes that are undone, and a snapshot. The class is not
 * thread-safe.
 *
 * <p>All rows are made with the object and used again, so that no call makes anything.
 */
public final class ClockPlanner {
    public static final int NONE = -1, BAD = -2, STATE = -3, FULL = -4;

    private static final int NOTHING = -5;

    private static final int MAX_NODES = 24;
    private static final int MAX_LEAVES = 10;
    private static final int MAX_DEPTH = 6;
    private static final int MAX_SOURCE = 1000000;
    private static final int MAX_RATE = 4000000;
    private static final int MAX_DELAY = 99;
    private static final int MAX_LOAD = 9;
    private static final int MAX_PAD = 99;
    private static final int MAX_PRIORITY = 9;
    private static final int MAX_LIMIT = 999;
    private static final int MAX_BUDGET = 2000000000;
    private static final int MAX_BELOW = 9999;
    private static final int MAX_TAPE = 40;
    private static final int MAX_BYTE = 127;
    private static final int MAX_DIGITS = 7;
    private static final int MAX_CHANGES = 6;
    private static final int GROUPS = 4;
    private static final int FACTOR = 9;
    private static final int RULES = 4;

    private static final int SOURCE = 0;
    private static final int DIVIDER = 1;
    private static final int MULTIPLIER = 2;
    private static final int GATE = 3;
    private static final int BUFFER = 4;
    private static final int LEAF = 5;

    private static final int FITS = 0;
    private static final int NO_NODE = 1;
    private static final int TOO_DEEP = 2;
    private static final int TOO_MANY = 3;
    private static final int OUT_OF_RANGE = 4;
    private static final int TOO_FAST = 5;
    private static final int NOT_CONTENT = 6;
    private static final int HAS_CHILDREN = 7;
    private static final int PAD_TOO_GREAT = 8;
    private static final int NOT_ENOUGH = 9;

    private static final int WRONG_TEXT = -100;
    private static final int REFUSED_PART = -200;

    private final Tree tree;
    private final Tree spare;
    private final Tree snapshot;
    private final Figures figures;
    private final Figures trial;
    private final History history;
    private final Tape tape;
    private final ShedSearch shedSearch;
    private final WaySearch waySearch;
    private boolean hasSnapshot;
    private int latestReason;

    public ClockPlanner() {
        tree = new Tree();
        spare = new Tree();
        snapshot = new Tree();
        figures = new Figures();
        trial = new Figures();
        history = new History();
        tape = new Tape();
        shedSearch = new ShedSearch();
        waySearch = new WaySearch();
        hasSnapshot = false;
        latestReason = NOTHING;
        figures.read(tree);
    }

    public int source(int rate) {
        if (rate < 1 || rate > MAX_SOURCE) {
            return refuse(OUT_OF_RANGE);
        }
        int before = tree.base;
        begin();
        tree.base = rate;
        return finishRates(before);
    }

    public int add(int parent, int kind, int number) {
        if (kind < DIVIDER || kind > BUFFER) {
            return NONE;
        }
        int why = refusalOfNode(parent, kind, number);
        if (why != FITS) {
            return refuse(why);
        }
        begin();
        return finish(tree.append(parent, kind, number));
    }

    public int leaf(int parent, int group, int low, int high, int priority) {
        if (!isGroup(group)) {
            return NONE;
        }
        int why = refusalOfLeaf(parent, low, high, priority);
        if (why != FITS) {
            return refuse(why);
        }
        begin();
        return finish(tree.appendLeaf(parent, group, low, high, priority));
    }

    public int set(int node, int what, int value) {
        if (what < 0 || what > 1) {
            return NONE;
        }
        if (!isNode(node)) {
            return refuse(NO_NODE);
        }
        if (value < 0 || value > (what == 0 ? MAX_DELAY : MAX_LOAD)) {
            return refuse(OUT_OF_RANGE);
        }
        begin();
        int[] row = what == 0 ? tree.delay : tree.load;
        int before = row[node];
        row[node] = value;
        return finish(before);
    }

    public int tune(int node, int number) {
        if (!isNode(node)) {
            return refuse(NO_NODE);
        }
        int kind = tree.kind[node];
        if (kind != DIVIDER && kind != MULTIPLIER && kind != GATE) {
            return NONE;
        }
        if (!isNumberOf(kind, number)) {
            return refuse(OUT_OF_RANGE);
        }
        int before = tree.number[node];
        begin();
        tree.number[node] = number;
        return finishRates(before);
    }

    public int request(int node, int is) {
        if (!isLeaf(node)) {
            return NONE;
        }
        if (is != 0 && is != 1) {
            return BAD;
        }
        begin();
        tree.wants[node] = is;
        finish(0);
        return openGates();
    }

    public int limit(int group, int limit) {
        if (!isGroup(group)) {
            return NONE;
        }
        if (limit < 0 || limit > MAX_LIMIT) {
            return BAD;
        }
        begin();
        tree.limits[group] = limit;
        return finish(skewOf(group) <= limit ? 1 : 0);
    }

    public int remove(int node) {
        if (node == SOURCE) {
            return NONE;
        }
        if (!isNode(node)) {
            return refuse(NO_NODE);
        }
        if (figures.children[node] > 0) {
            return refuse(HAS_CHILDREN);
        }
        begin();
        tree.drop(node);
        return finish(tree.size);
    }

    public int mend(int group) {
        if (!isGroup(group)) {
            return NONE;
        }
        int sum = mendingOf(group);
        if (sum < 0) {
            return refuse(PAD_TOO_GREAT);
        }
        begin();
        int least = leastAllowed(group);
        for (int n = 0; n < tree.size; n++) {
            tree.pad[n] += lackOf(n, group, least);
        }
        return finish(sum);
    }

    public int shed(int budget) {
        if (!isBudget(budget)) {
            return BAD;
        }
        int chosen = shedSearch.find(tree, figures, budget);
        if (chosen < 0) {
            return refuse(NOT_ENOUGH);
        }
        begin();
        for (int n = 0; n < tree.size; n++) {
            if (holds(chosen, n)) {
                tree.wants[n] = 0;
            }
        }
        return finish(Integer.bitCount(chosen));
    }

    public int wouldShed(int budget) {
        return isBudget(budget) ? shedSearch.find(tree, figures, budget) : BAD;
    }

    public int feed(int n, int a, int b, int c, int d, int e) {
        if (n < 1 || n > 5) {
            return BAD;
        }
        if (!isByte(a) || !isByte(b) || !isByte(c) || !isByte(d) || !isByte(e)) {
            return BAD;
        }
        if (tape.length + n > MAX_TAPE) {
            return FULL;
        }
        tape.put(a);
        if (n > 1) {
            tape.put(b);
        }
        if (n > 2) {
            tape.put(c);
        }
        if (n > 3) {
            tape.put(d);
        }
        if (n > 4) {
            tape.put(e);
        }
        return tape.length;
    }

    public int lay() {
        boolean right = tape.parse();
        tape.length = 0;
        if (!right) {
            return WRONG_TEXT - tape.at;
        }
        if (!isNode(tape.start)) {
            refuse(NO_NODE);
            return REFUSED_PART;
        }
        int before = tree.size;
        begin();
        int at = tape.start;
        for (int i = 0; i < tape.steps; i++) {
            int next = stepFrom(at, tape.kinds[i], tape.numbers[i]);
            if (next < 0) {
                return giveUpLaying(i + 1, -next);
            }
            at = next;
        }
        if (tape.hasLeaf) {
            int why = refusalOfLeaf(at, tape.low, tape.high, 1);
            if (why != FITS) {
                return giveUpLaying(tape.steps + 1, why);
            }
            tree.appendLeaf(at, tape.group, tape.low, tape.high, 1);
        }
        return finish(tree.size - before);
    }

    public int reason() {
        return latestReason;
    }

    public long rate(int node, int part) {
        if (!isNode(node) || !isPart(part)) {
            return NONE;
        }
        return part == 0 ? figures.top[node] : figures.bottom[node];
    }

    public long again(int node, int part) {
        if (!isNode(node) || !isPart(part)) {
            return NONE;
        }
        long times = tree.base;
        long by = 1;
        int at = node;
        for (int level = 0; level < MAX_DEPTH && at != SOURCE; level++) {
            if (tree.kind[at] == MULTIPLIER) {
                times *= tree.number[at];
            } else if (tree.kind[at] == DIVIDER) {
                by *= tree.number[at];
            }
            at = tree.parent[at];
        }
        long common = greatestCommon(times, by);
        return quotient(part == 0 ? times : by, common);
    }

    public int node(int node, int what) {
        if (!isNode(node)) {
            return NONE;
        }
        switch (what) {
            case 0:
                return tree.kind[node];
            case 1:
                return node == SOURCE ? NOTHING : tree.parent[node];
            case 2:
                return tree.number[node];
            case 3:
                return tree.delay[node];
            case 4:
                return tree.load[node];
            case 5:
                return figures.depth[node];
            case 6:
                return figures.runs[node] ? 1 : 0;
            case 7:
                return figures.arrival[node];
            case 8:
                return figures.children[node];
            case 9:
                return Integer.bitCount(figures.leaves[node]);
            case 10:
                return Integer.bitCount(figures.asking[node]);
            default:
                return NONE;
        }
    }

    public int ofLeaf(int node, int what) {
        if (!isLeaf(node)) {
            return NONE;
        }
        switch (what) {
            case 0:
                return tree.low[node];
            case 1:
                return tree.high[node];
            case 2:
                return tree.priority[node];
            case 3:
                return tree.wants[node];
            case 4:
                return tree.pad[node];
            case 5:
                return figures.isContent(tree, node) ? 1 : 0;
            default:
                return NONE;
        }
    }

    public int ofGroup(int group, int what) {
        if (!isGroup(group)) {
            return NONE;
        }
        switch (what) {
            case 0:
                return skewOf(group);
            case 1:
                return tree.limits[group];
            case 2:
                return leavesOf(group, false);
            case 3:
                return leavesOf(group, true);
            case 4:
                return mendingOf(group);
            case 5:
                return latestOf(group);
            case 6:
                return earliestOf(group);
            default:
                return NONE;
        }
    }

    public long power(int node) {
        if (node == -1) {
            return powerOfAll();
        }
        if (!isNode(node)) {
            return NONE;
        }
        return figures.runs[node] ? figures.drawOf(tree, node) : 0;
    }

    public int way(int above, int below, int what) {
        if (what < 0 || what > 3) {
            return NONE;
        }
        if (above < 1 || above > MAX_RATE || below < 1 || below > MAX_BELOW) {
            return BAD;
        }
        if (!waySearch.find(tree, figures, above, below)) {
            return NOTHING;
        }
        switch (what) {
            case 0:
                return waySearch.steps;
            case 1:
                return waySearch.from;
            case 2:
                return waySearch.first;
            default:
                return waySearch.second;
        }
    }

    public int ranked(int i) {
        for (int n = 0; n < tree.size; n++) {
            if (placeOf(n) == i) {
                return n;
            }
        }
        return NONE;
    }

    public int account(int what) {
        if (what >= SOURCE && what <= LEAF) {
            return nodesOf(what);
        }
        switch (what) {
            case 6:
                return runningNodes();
            case 7:
                return contentLeaves();
            case 8:
                return openGates();
            case 9:
                return sumOfPads();
            case 10:
                return greatestDepth();
            case 11:
                return skewedGroups();
            default:
                return NONE;
        }
    }

    public int back() {
        if (!history.pop(tree)) {
            return STATE;
        }
        figures.read(tree);
        return history.held;
    }

    public int image() {
        snapshot.take(tree);
        hasSnapshot = true;
        return tree.size;
    }

    public int undo() {
        if (!hasSnapshot) {
            return STATE;
        }
        tree.take(snapshot);
        figures.read(tree);
        history.held = 0;
        return tree.size;
    }

    public int count(int what) {
        switch (what) {
            case 0:
                return tree.size;
            case 1:
                return tape.length;
            case 2:
                return history.held;
            default:
                return NONE;
        }
    }

    // Changes: begin keeps the tree as it is, and one of the others ends what begin began.

    private void begin() {
        spare.take(tree);
    }

    private int finish(int answer) {
        history.push(spare);
        figures.read(tree);
        return answer;
    }

    private int finishRates(int answer) {
        trial.read(tree);
        int why = refusalOfRates();
        if (why != FITS) {
            tree.take(spare);
            return refuse(why);
        }
        return finish(answer);
    }

    private int giveUpLaying(int part, int why) {
        tree.take(spare);
        figures.read(tree);
        refuse(why);
        return REFUSED_PART - part;
    }

    private int refuse(int why) {
        latestReason = why;
        return STATE;
    }

    private int refusalOfRates() {
        boolean upset = false;
        for (int n = 0; n < tree.size; n++) {
            if (isAbove(trial.top[n], trial.bottom[n], MAX_RATE)) {
                return TOO_FAST;
            }
            if (tree.kind[n] == LEAF && figures.isContent(tree, n) && !trial.isContent(tree, n)) {
                upset = true;
            }
        }
        return upset ? NOT_CONTENT : FITS;
    }

    private int refusalOfPlace(int parent) {
        if (!isNode(parent) || tree.kind[parent] == LEAF) {
            return NO_NODE;
        }
        if (figures.depth[parent] >= MAX_DEPTH) {
            return TOO_DEEP;
        }
        return tree.size >= MAX_NODES ? TOO_MANY : FITS;
    }

    private int refusalOfNode(int parent, int kind, int number) {
        int why = refusalOfPlace(parent);
        if (why != FITS) {
            return why;
        }
        if (!isNumberOf(kind, number)) {
            return OUT_OF_RANGE;
        }
        boolean tooFast = kind == MULTIPLIER
                && isAbove(figures.top[parent] * number, figures.bottom[parent], MAX_RATE);
        return tooFast ? TOO_FAST : FITS;
    }

    private int refusalOfLeaf(int parent, int low, int high, int priority) {
        int why = refusalOfPlace(parent);
        if (why != FITS) {
            return why;
        }
        if (nodesOf(LEAF) >= MAX_LEAVES) {
            return TOO_MANY;
        }
        boolean boundsFit = low >= 0 && low <= high && high <= MAX_RATE;
        boolean priorityFits = priority >= 1 && priority <= MAX_PRIORITY;
        return boundsFit && priorityFits ? FITS : OUT_OF_RANGE;
    }

    /** The child that a step goes on to, made where there is none; minus the reason if it is refused. */
    private int stepFrom(int at, int kind, int number) {
        for (int n = at + 1; n < tree.size; n++) {
            if (tree.parent[n] == at && tree.kind[n] == kind && tree.number[n] == number) {
                return n;
            }
        }
        int why = refusalOfNode(at, kind, number);
        if (why != FITS) {
            return -why;
        }
        int made = tree.append(at, kind, number);
        figures.read(tree);
        return made;
    }

    // Groups.

    private boolean runsIn(int n, int group) {
        return tree.isOfGroup(n, group) && figures.runs[n];
    }

    private int latestOf(int group) {
        int best = NOTHING;
        for (int n = 0; n < tree.size; n++) {
            if (runsIn(n, group) && (best < 0 || figures.arrival[n] > figures.arrival[best])) {
                best = n;
            }
        }
        return best;
    }

    private int earliestOf(int group) {
        int best = NOTHING;
        for (int n = 0; n < tree.size; n++) {
            if (runsIn(n, group) && (best < 0 || figures.arrival[n] < figures.arrival[best])) {
                best = n;
            }
        }
        return best;
    }

    private int skewOf(int group) {
        int late = latestOf(group);
        int early = earliestOf(group);
        return late < 0 || early < 0 ? 0 : figures.arrival[late] - figures.arrival[early];
    }

    /** The arrival that no leaf of the group that runs may fall short of. */
    private int leastAllowed(int group) {
        int late = latestOf(group);
        return late < 0 ? 0 : figures.arrival[late] - tree.limits[group];
    }

    private int lackOf(int n, int group, int least) {
        return runsIn(n, group) ? Math.max(0, least - figures.arrival[n]) : 0;
    }

    private int mendingOf(int group) {
        int least = leastAllowed(group);
        int sum = 0;
        for (int n = 0; n < tree.size; n++) {
            int lack = lackOf(n, group, least);
            if (tree.pad[n] + lack > MAX_PAD) {
                return NOTHING;
            }
            sum += lack;
        }
        return sum;
    }

    private int leavesOf(int group, boolean runningAlone) {
        int sum = 0;
        for (int n = 0; n < tree.size; n++) {
            if (tree.isOfGroup(n, group) && (figures.runs[n] || !runningAlone)) {
                sum++;
            }
        }
        return sum;
    }

    // Accounts.

    private int nodesOf(int kind) {
        int sum = 0;
        for (int n = 0; n < tree.size; n++) {
            if (tree.kind[n] == kind) {
                sum++;
            }
        }
        return sum;
    }

    private int runningNodes() {
        int sum = 0;
        for (int n = 0; n < tree.size; n++) {
            if (figures.runs[n]) {
                sum++;
            }
        }
        return sum;
    }

    private int contentLeaves() {
        int sum = 0;
        for (int n = 0; n < tree.size; n++) {
            if (tree.kind[n] == LEAF && figures.isContent(tree, n)) {
                sum++;
            }
        }
        return sum;
    }

    private int openGates() {
        int sum = 0;
        for (int n = 0; n < tree.size; n++) {
            if (tree.kind[n] == GATE && figures.open[n]) {
                sum++;
            }
        }
        return sum;
    }

    private int sumOfPads() {
        int sum = 0;
        for (int n = 0; n < tree.size; n++) {
            sum += tree.pad[n];
        }
        return sum;
    }

    private int greatestDepth() {
        int greatest = 0;
        for (int n = 0; n < tree.size; n++) {
            greatest = Math.max(greatest, figures.depth[n]);
        }
        return greatest;
    }

    private int skewedGroups() {
        int groups = 0;
        for (int group = 0; group < GROUPS; group++) {
            if (skewOf(group) > tree.limits[group]) {
                groups |= 1 << group;
            }
        }
        return groups;
    }

    private long powerOfAll() {
        long sum = 0;
        for (int n = 0; n < tree.size; n++) {
            if (figures.runs[n]) {
                sum += figures.drawOf(tree, n);
            }
        }
        return sum;
    }

    /** How many nodes stand before this one when the greatest rate comes first. */
    private int placeOf(int n) {
        int before = 0;
        for (int other = 0; other < tree.size; other++) {
            int order = figures.compareRates(other, n);
            if (order > 0 || order == 0 && other < n) {
                before++;
            }
        }
        return before;
    }

    // What arguments may be.

    private boolean isNode(int node) {
        return node >= 0 && node < tree.size;
    }

    private boolean isLeaf(int node) {
        return isNode(node) && tree.kind[node] == LEAF;
    }

    private static boolean isGroup(int group) {
        return group >= 0 && group < GROUPS;
    }

    private static boolean isPart(int part) {
        return part == 0 || part == 1;
    }

    private static boolean isBudget(int budget) {
        return budget >= 0 && budget <= MAX_BUDGET;
    }

    private static boolean isByte(int value) {
        return value >= 0 && value <= MAX_BYTE;
    }

    private static boolean isNumberOf(int kind, int number) {
        switch (kind) {
            case DIVIDER:
            case MULTIPLIER:
                return number >= 1 && number <= FACTOR;
            case GATE:
                return number >= 0 && number <= RULES;
            case BUFFER:
                return number >= 0 && number <= MAX_DELAY;
            default:
                return false;
        }
    }

    // Arithmetic. Tops stay below 9^6 * 10^6 and bottoms at most 9^6, so that no product here overflows.

    private static boolean isAbove(long top, long bottom, long bound) {
        return top > bound * bottom;
    }

    private static long greatestCommon(long one, long other) {
        long a = one;
        long b = other;
        for (int turn = 0; turn < 100 && b != 0; turn++) {
            long rest = a % b;
            a = b;
            b = rest;
        }
        return a;
    }

    private static long quotient(long value, long divisor) {
        return divisor > 0 ? value / divisor : 0;
    }

    private static boolean holds(int bits, int n) {
        return (bits >> n & 1) != 0;
    }

    /**
     * What the snapshot and the changes keep: all that isn't reckoned from something else. A parent
     * always has a lower number than its children, as nodes are made at the end and keep their order.
     */
    private static final class Tree {
        final int[] kind = new int[MAX_NODES];
        final int[] parent = new int[MAX_NODES];
        final int[] number = new int[MAX_NODES];
        final int[] delay = new int[MAX_NODES];
        final int[] load = new int[MAX_NODES];
        final int[] low = new int[MAX_NODES];
        final int[] high = new int[MAX_NODES];
        final int[] priority = new int[MAX_NODES];
        final int[] wants = new int[MAX_NODES];
        final int[] pad = new int[MAX_NODES];
        final int[] limits = new int[GROUPS];
        int base = 1000;
        int size = 1;

        Tree() {
            for (int group = 0; group < GROUPS; group++) {
                limits[group] = MAX_LIMIT;
            }
        }

        void take(Tree other) {
            for (int n = 0; n < other.size; n++) {
                kind[n] = other.kind[n];
                parent[n] = other.parent[n];
                number[n] = other.number[n];
                delay[n] = other.delay[n];
                load[n] = other.load[n];
                low[n] = other.low[n];
                high[n] = other.high[n];
                priority[n] = other.priority[n];
                wants[n] = other.wants[n];
                pad[n] = other.pad[n];
            }
            for (int group = 0; group < GROUPS; group++) {
                limits[group] = other.limits[group];
            }
            base = other.base;
            size = other.size;
        }

        boolean isOfGroup(int n, int group) {
            return kind[n] == LEAF && number[n] == group;
        }

        int append(int above, int newKind, int newNumber) {
            int n = size;
            if (n >= MAX_NODES) {
                return NONE;
            }
            kind[n] = newKind;
            parent[n] = above;
            number[n] = newNumber;
            delay[n] = newKind == BUFFER ? newNumber : 0;
            load[n] = 0;
            low[n] = 0;
            high[n] = 0;
            priority[n] = 0;
            wants[n] = 0;
            pad[n] = 0;
            size = n + 1;
            return n;
        }

        int appendLeaf(int above, int group, int newLow, int newHigh, int newPriority) {
            int n = append(above, LEAF, group);
            if (n >= 0) {
                low[n] = newLow;
                high[n] = newHigh;
                priority[n] = newPriority;
                wants[n] = 1;
            }
            return n;
        }

        void drop(int gone) {
            for (int n = gone; n + 1 < size; n++) {
                int above = parent[n + 1];
                kind[n] = kind[n + 1];
                parent[n] = above > gone ? above - 1 : above;
                number[n] = number[n + 1];
                delay[n] = delay[n + 1];
                load[n] = load[n + 1];
                low[n] = low[n + 1];
                high[n] = high[n + 1];
                priority[n] = priority[n + 1];
                wants[n] = wants[n + 1];
                pad[n] = pad[n + 1];
            }
            size--;
        }
    }

    /** What is reckoned from a tree, node by node. */
    private static final class Figures {
        final long[] top = new long[MAX_NODES];
        final long[] bottom = new long[MAX_NODES];
        final int[] depth = new int[MAX_NODES];
        final int[] arrival = new int[MAX_NODES];
        final int[] children = new int[MAX_NODES];
        /** The leaves below a node, as bits, and those of them that request. */
        final int[] leaves = new int[MAX_NODES];
        final int[] asking = new int[MAX_NODES];
        final boolean[] open = new boolean[MAX_NODES];
        final boolean[] runs = new boolean[MAX_NODES];

        void read(Tree tree) {
            readRates(tree);
            readPaths(tree);
            readBelow(tree);
            readGates(tree);
        }

        private void readRates(Tree tree) {
            top[0] = tree.base;
            bottom[0] = 1;
            for (int n = 1; n < tree.size; n++) {
                int above = tree.parent[n];
                long times = tree.kind[n] == MULTIPLIER ? tree.number[n] : 1;
                long by = tree.kind[n] == DIVIDER ? tree.number[n] : 1;
                long before = greatestCommon(top[above], by);
                long behind = greatestCommon(times, bottom[above]);
                top[n] = quotient(top[above], before) * quotient(times, behind);
                bottom[n] = quotient(bottom[above], behind) * quotient(by, before);
            }
        }

        private void readPaths(Tree tree) {
            depth[0] = 0;
            arrival[0] = tree.delay[0];
            for (int n = 1; n < tree.size; n++) {
                int above = tree.parent[n];
                depth[n] = depth[above] + 1;
                // Only leaves have pads, and nothing is below a leaf.
                arrival[n] = arrival[above] + tree.delay[n] + tree.pad[n];
            }
        }

        private void readBelow(Tree tree) {
            for (int n = 0; n < tree.size; n++) {
                children[n] = 0;
                leaves[n] = 0;
                asking[n] = 0;
            }
            for (int n = tree.size - 1; n > 0; n--) {
                int above = tree.parent[n];
                int own = tree.kind[n] == LEAF ? 1 << n : 0;
                children[above]++;
                leaves[above] |= leaves[n] | own;
                asking[above] |= asking[n] | (tree.wants[n] == 1 ? own : 0);
            }
        }

        private void readGates(Tree tree) {
            open[0] = true;
            runs[0] = true;
            for (int n = 1; n < tree.size; n++) {
                open[n] = isOpenWithout(tree, n, 0);
                runs[n] = runs[tree.parent[n]] && open[n];
            }
        }

        /** Whether a node is open if the leaves of a set do not request; what is no gate always is. */
        boolean isOpenWithout(Tree tree, int n, int set) {
            if (tree.kind[n] != GATE) {
                return true;
            }
            int all = Integer.bitCount(leaves[n]);
            int some = Integer.bitCount(asking[n] & ~set);
            switch (tree.number[n]) {
                case 0:
                    return true;
                case 2:
                    return some > 0;
                case 3:
                    return all > 0 && some == all;
                case 4:
                    return some > all - some;
                default:
                    return false;
            }
        }

        boolean isContent(Tree tree, int n) {
            return !isAbove(top[n], bottom[n], tree.high[n]) && top[n] >= tree.low[n] * bottom[n];
        }

        /** The power of a node if it runs. */
        long drawOf(Tree tree, int n) {
            return quotient(top[n] * tree.load[n], bottom[n]);
        }

        int compareRates(int one, int other) {
            return Long.compare(top[one] * bottom[other], top[other] * bottom[one]);
        }
    }

    /** The trees before the latest changes, in a ring whose oldest one gives way. */
    private static final class History {
        private final Tree[] kept = new Tree[MAX_CHANGES];
        private int newest = 0;
        int held = 0;

        History() {
            for (int i = 0; i < MAX_CHANGES; i++) {
                kept[i] = new Tree();
            }
        }

        void push(Tree before) {
            newest = newest + 1 < MAX_CHANGES ? newest + 1 : 0;
            kept[newest].take(before);
            held = Math.min(held + 1, MAX_CHANGES);
        }

        boolean pop(Tree into) {
            if (held == 0) {
                return false;
            }
            into.take(kept[newest]);
            newest = newest > 0 ? newest - 1 : MAX_CHANGES - 1;
            held--;
            return true;
        }
    }

    /** The bytes that are fed, and the path that was last read from them. */
    private static final class Tape {
        private final int[] bytes = new int[MAX_TAPE];
        int length = 0;
        /** Where reading stands: the error position if a text is wrong. */
        int at = 0;
        int start = 0;
        int steps = 0;
        final int[] kinds = new int[MAX_TAPE];
        final int[] numbers = new int[MAX_TAPE];
        boolean hasLeaf = false;
        int group = 0;
        int low = 0;
        int high = 0;

        void put(int value) {
            if (length < MAX_TAPE) {
                bytes[length] = value;
                length++;
            }
        }

        boolean parse() {
            at = 0;
            steps = 0;
            hasLeaf = false;
            start = readNumber();
            if (start < 0) {
                return false;
            }
            for (int turn = 0; turn < MAX_TAPE && at < length; turn++) {
                if (readSign('.')) {
                    return readLeaf() && at == length;
                }
                if (!readStep()) {
                    return false;
                }
            }
            return at == length;
        }

        private boolean readStep() {
            int kind = readKind();
            if (kind < 0 || steps >= MAX_TAPE) {
                return false;
            }
            int number = readNumberOf(kind);
            if (number < 0) {
                return false;
            }
            kinds[steps] = kind;
            numbers[steps] = number;
            steps++;
            return true;
        }

        private int readNumberOf(int kind) {
            if (kind == BUFFER) {
                return readNumber();
            }
            return kind == GATE ? readDigit(0, RULES) : readDigit(1, FACTOR);
        }

        private int readKind() {
            if (readSign('/')) {
                return DIVIDER;
            }
            if (readSign('*')) {
                return MULTIPLIER;
            }
            if (readSign('g')) {
                return GATE;
            }
            return readSign('+') ? BUFFER : NONE;
        }

        private boolean readLeaf() {
            hasLeaf = true;
            group = readDigit(0, GROUPS - 1);
            if (group < 0 || !readSign(':')) {
                return false;
            }
            low = readNumber();
            if (low < 0 || !readSign('-')) {
                return false;
            }
            high = readNumber();
            return high >= 0;
        }

        private int readNumber() {
            int value = readDigit(0, 9);
            for (int digits = 1; digits < MAX_DIGITS && value >= 0; digits++) {
                int digit = readDigit(0, 9);
                if (digit < 0) {
                    return value;
                }
                value = value * 10 + digit;
            }
            return value;
        }

        private int readDigit(int least, int greatest) {
            if (at >= length || at >= MAX_TAPE) {
                return NONE;
            }
            int digit = bytes[at] - '0';
            if (digit < least || digit > greatest) {
                return NONE;
            }
            at++;
            return digit;
        }

        private boolean readSign(char sign) {
            if (at >= length || at >= MAX_TAPE || bytes[at] != sign) {
                return false;
            }
            at++;
            return true;
        }
    }

    /** The search for the leaves that are shed. */
    private static final class ShedSearch {
        private final long[] draw = new long[MAX_NODES];
        private final boolean[] runs = new boolean[MAX_NODES];

        /** The set as bits, or NOTHING if no set is enough. */
        int find(Tree tree, Figures figures, long budget) {
            for (int n = 0; n < tree.size; n++) {
                draw[n] = figures.drawOf(tree, n);
            }
            int all = figures.asking[0];
            if (powerWithout(tree, figures, 0) <= budget) {
                return 0;
            }
            // No rule opens a gate for fewer requests, so that the whole set leaves the least power.
            if (powerWithout(tree, figures, all) > budget) {
                return NOTHING;
            }
            return cheapest(tree, figures, budget, all);
        }

        private int cheapest(Tree tree, Figures figures, long budget, int all) {
            int best = all;
            int bestCost = costOf(tree, all);
            int set = 0;
            int turns = 1 << Math.min(Integer.bitCount(all), MAX_LEAVES);
            for (int turn = 0; turn < turns; turn++) {
                int cost = costOf(tree, set);
                if (cost < bestCost && powerWithout(tree, figures, set) <= budget) {
                    best = set;
                    bestCost = cost;
                }
                // The next greater one of the sets within all.
                set = (set - all) & all;
            }
            return best;
        }

        /** The sum of priorities, and the number of leaves behind it, which is less than 100. */
        private int costOf(Tree tree, int set) {
            int cost = 0;
            for (int n = 0; n < tree.size; n++) {
                if (holds(set, n)) {
                    cost += tree.priority[n] * 100 + 1;
                }
            }
            return cost;
        }

        private long powerWithout(Tree tree, Figures figures, int set) {
            long sum = draw[0];
            runs[0] = true;
            for (int n = 1; n < tree.size; n++) {
                runs[n] = runs[tree.parent[n]] && figures.isOpenWithout(tree, n, set);
                if (runs[n]) {
                    sum += draw[n];
                }
            }
            return sum;
        }
    }

    /** The search for the cheapest way to a wanted rate. */
    private static final class WaySearch {
        private static final int MAX_STEPS = 2;
        private static final int AS_MULTIPLIER = 10;

        int steps = 0;
        int from = 0;
        int first = NOTHING;
        int second = NOTHING;

        boolean find(Tree tree, Figures figures, long above, long below) {
            for (int more = 0; more <= MAX_STEPS; more++) {
                steps = more;
                for (int depth = 0; depth + more <= MAX_DEPTH; depth++) {
                    if (findAt(tree, figures, depth, above, below)) {
                        return true;
                    }
                }
            }
            return false;
        }

        private boolean findAt(Tree tree, Figures figures, int depth, long above, long below) {
            for (int n = 0; n < tree.size; n++) {
                boolean fits = figures.depth[n] == depth && tree.kind[n] != LEAF;
                if (fits && reaches(figures.top[n], figures.bottom[n], above, below)) {
                    from = n;
                    return true;
                }
            }
            return false;
        }

        private boolean reaches(long top, long bottom, long above, long below) {
            first = NOTHING;
            second = NOTHING;
            if (steps == 0) {
                return top * below == above * bottom;
            }
            if (steps == 1) {
                first = lastStep(top, bottom, above, below);
                return first != NOTHING;
            }
            return reachesByTwo(top, bottom, above, below);
        }

        private boolean reachesByTwo(long top, long bottom, long above, long below) {
            for (int code = 2; code <= AS_MULTIPLIER + FACTOR; code++) {
                if (code == AS_MULTIPLIER || code == AS_MULTIPLIER + 1) {
                    continue;
                }
                long times = code > AS_MULTIPLIER ? code - AS_MULTIPLIER : 1;
                long by = code > AS_MULTIPLIER ? 1 : code;
                if (!isAbove(top * times, bottom * by, MAX_RATE)) {
                    second = lastStep(top * times, bottom * by, above, below);
                    if (second != NOTHING) {
                        first = code;
                        return true;
                    }
                }
            }
            return false;
        }

        /** The new node that leads to the wanted rate at once, as it counts: there is at most one. */
        private static int lastStep(long top, long bottom, long above, long below) {
            long here = top * below;
            long there = above * bottom;
            for (int number = 2; number <= FACTOR; number++) {
                if (here == there * number) {
                    return number;
                }
                if (here * number == there) {
                    return AS_MULTIPLIER + number;
                }
            }
            return NOTHING;
        }
    }
}
