import java.util.ArrayList;
import java.util.List;
import java.util.Random;

/** Random runs of calls, the same ones each time, on the class and on the model side by side. */
public final class ModelTest {
    private static final int RUNS = 60;
    private static final int TURNS = 512;
    /** What an object is used for: behind that the document leaves the answers free. */
    private static final int CALLS = 512;
    private static final int MOST_ACTS = 400;

    private final Check check;
    private final Random random;
    private final Model m = new Model();
    private final String name;
    /** The calls so far that may have changed something, to bring a new planner to the same state. */
    private final List<Twins.Call> acts = new ArrayList<>();
    private ClockPlanner planner = new ClockPlanner();
    private int used = 0;

    private ModelTest(Check check, int run) {
        this.check = check;
        this.random = new Random(run);
        this.name = "run " + run + ", call ";
    }

    public static void main(String[] args) {
        Check check = new Check();
        for (int run = 0; run < RUNS && check.allRight(); run++) {
            new ModelTest(check, run).go(run);
            new ModelTest(check, RUNS + run).shedding();
        }
        check.end();
    }

    /** The planner for one call more: a new one in the same state if the last one is used up. */
    private ClockPlanner x() {
        if (used == CALLS) {
            planner = new ClockPlanner();
            for (Twins.Call act : acts) {
                act.on(planner);
            }
            used = acts.size();
        }
        used++;
        return planner;
    }

    private void go(int run) {
        for (int call = 0; call < TURNS && acts.size() < MOST_ACTS && check.allRight(); call++) {
            // Some runs grow quickly, others change and undo a lot.
            if (random.nextInt(100) < (run % 3 == 0 ? 70 : 50)) {
                change(call);
            } else if (random.nextInt(4) == 0) {
                lay(call);
            } else {
                ask(call);
            }
            check.due(name + call + ": reason", x().reason(), m.reason());
            check.due(name + call + ": count", x().count(call % 3), m.count(call % 3));
            if (call % 64 == 63) {
                compareAll(call);
            }
        }
        compareAll(TURNS);
    }

    /** Gates within gates, with loads on all, so that budgets have many sets of leaves to choose from. */
    private void shedding() {
        for (int i = 0; i < 6; i++) {
            int parent = random.nextInt(m.count(0)), rule = any(0, 2, 2, 3, 4, 4);
            acts(i, "add", y -> y.add(parent, 3, rule), m.add(parent, 3, rule));
        }
        int gates = m.count(0);
        for (int i = 0; i < 9; i++) {
            int parent = 1 + random.nextInt(gates - 1), priority = 1 + random.nextInt(4);
            acts(i, "leaf", y -> y.leaf(parent, 0, 0, 0, priority), m.leaf(parent, 0, 0, 0, priority));
        }
        for (int n = 0; n < m.count(0); n++) {
            int node = n, load = random.nextInt(10);
            acts(n, "set", y -> y.set(node, 1, load), m.set(node, 1, load));
        }
        for (int i = 0; i < 4; i++) {
            int budget = (int) (m.power(-1) * random.nextInt(100) / 100);
            same(i, "wouldShed", x().wouldShed(budget), m.wouldShed(budget));
        }
        int budget = (int) (m.power(-1) * (60 + random.nextInt(40)) / 100);
        acts(0, "shed", y -> y.shed(budget), m.shed(budget));
        compareAll(0);
    }

    private int any(int... values) {
        return values[random.nextInt(values.length)];
    }

    private int node() {
        int size = m.count(0);
        return random.nextInt(30) == 0 ? any(-1, size, size + 1, Integer.MIN_VALUE, Integer.MAX_VALUE)
                : random.nextInt(size);
    }

    private int leafNode() {
        int size = m.count(0);
        for (int i = 0; i < 20; i++) {
            int n = random.nextInt(size);
            if (m.node(n, 0) == 5) {
                return n;
            }
        }
        return node();
    }

    private int between(int low, int high) {
        return random.nextInt(40) == 0 ? any(low - 1, high + 1, Integer.MIN_VALUE, Integer.MAX_VALUE, low, high)
                : low + random.nextInt(high - low + 1);
    }

    private int bound() {
        int n = random.nextInt(m.count(0));
        long near = m.rate(n, 0) / m.rate(n, 1);
        return switch (random.nextInt(6)) {
            case 0 -> 0;
            case 1 -> 4000000;
            case 2 -> (int) near;
            case 3 -> (int) near + 1;
            case 4 -> (int) (near / 2);
            default -> between(0, 4000000);
        };
    }

    private int sourceRate() {
        return switch (random.nextInt(4)) {
            case 0 -> between(1, 1000000);
            case 1 -> any(1000, 720, 5040, 999983, 1000000, 1);
            default -> between(1, 5000);
        };
    }

    private int budget() {
        long all = m.power(-1);
        return switch (random.nextInt(6)) {
            case 0 -> between(0, 2000000000);
            case 1 -> (int) all;
            case 2 -> (int) all - 1;
            case 3 -> any(0, 1, -1, 2000000000, 2000000001);
            default -> (int) (all * random.nextInt(100) / 100);
        };
    }

    private void same(int call, String what, long got, long want) {
        check.due(name + call + ": " + what, got, want);
    }

    private void acts(int call, String what, Twins.Call act, long want) {
        same(call, what, act.on(x()), want);
        acts.add(act);
    }

    private void change(int call) {
        switch (random.nextInt(16)) {
            case 0 -> {
                int rate = sourceRate();
                acts(call, "source " + rate, y -> y.source(rate), m.source(rate));
            }
            case 1, 2, 3 -> {
                int parent = node(), kind = between(1, 4);
                int number = between(0, kind == 4 ? 99 : kind == 3 ? 4 : 9);
                acts(call, "add", y -> y.add(parent, kind, number), m.add(parent, kind, number));
            }
            case 4, 5 -> {
                int parent = node(), group = between(0, 3), a = bound(), b = bound(), priority = between(1, 9);
                int low = random.nextInt(20) == 0 ? Math.max(a, b) : Math.min(a, b), high = a + b - low;
                acts(call, "leaf", y -> y.leaf(parent, group, low, high, priority),
                        m.leaf(parent, group, low, high, priority));
            }
            case 6, 7, 8 -> {
                int node = node(), what = between(0, 1), value = between(0, what == 0 ? 99 : 9);
                acts(call, "set", y -> y.set(node, what, value), m.set(node, what, value));
            }
            case 9 -> {
                int node = node(), number = between(0, 9);
                acts(call, "tune", y -> y.tune(node, number), m.tune(node, number));
            }
            case 10, 11 -> {
                int node = leafNode(), is = between(0, 1);
                acts(call, "request", y -> y.request(node, is), m.request(node, is));
            }
            case 12 -> {
                int group = between(0, 3), limit = random.nextInt(3) > 0 ? random.nextInt(60) : between(0, 999);
                acts(call, "limit", y -> y.limit(group, limit), m.limit(group, limit));
            }
            case 13 -> {
                int node = node();
                acts(call, "remove", y -> y.remove(node), m.remove(node));
            }
            case 14 -> {
                int group = between(0, 3);
                acts(call, "mend", y -> y.mend(group), m.mend(group));
            }
            default -> seldomChange(call);
        }
    }

    private void seldomChange(int call) {
        switch (random.nextInt(6)) {
            case 0, 1 -> {
                int budget = budget();
                acts(call, "shed", y -> y.shed(budget), m.shed(budget));
            }
            case 2 -> acts(call, "image", ClockPlanner::image, m.image());
            case 3 -> {
                if (random.nextInt(3) == 0) {
                    acts(call, "undo", ClockPlanner::undo, m.undo());
                }
            }
            default -> {
                int times = random.nextInt(8);
                for (int i = 0; i < times; i++) {
                    acts(call, "back", ClockPlanner::back, m.back());
                }
            }
        }
    }

    private void lay(int call) {
        String text = text();
        for (int from = 0; from < text.length(); from += 5) {
            int n = Math.min(5, text.length() - from);
            int[] b = {0, 127, 0, 48, 9};
            for (int i = 0; i < n; i++) {
                b[i] = text.charAt(from + i);
            }
            boolean wrong = random.nextInt(60) == 0;
            if (wrong) {
                b[random.nextInt(5)] = any(-1, 128, 65536 + 48);
            }
            int bytes = wrong ? between(1, 5) : n;
            acts(call, "feed", y -> y.feed(bytes, b[0], b[1], b[2], b[3], b[4]), m.feed(bytes, b));
        }
        if (random.nextInt(20) > 0) {
            acts(call, "lay of " + text, ClockPlanner::lay, m.lay());
        }
    }

    private String text() {
        StringBuilder text = new StringBuilder(number(random.nextInt(m.count(0) + (random.nextInt(9) == 0 ? 2 : 0))));
        int steps = random.nextInt(random.nextInt(8) == 0 ? 20 : 5);
        for (int i = 0; i < steps; i++) {
            switch (random.nextInt(4)) {
                case 0 -> text.append('/').append(1 + random.nextInt(9));
                case 1 -> text.append('*').append(1 + random.nextInt(4));
                case 2 -> text.append('g').append(random.nextInt(5));
                default -> text.append('+').append(number(random.nextInt(random.nextInt(9) == 0 ? 200 : 9)));
            }
        }
        if (random.nextInt(3) == 0) {
            int a = bound(), b = bound();
            text.append('.').append(random.nextInt(4)).append(':').append(number(Math.min(a, b)));
            text.append('-').append(number(Math.max(a, b)));
        }
        if (random.nextInt(3) == 0) {
            spoil(text);
        }
        return text.toString();
    }

    private String number(int value) {
        String text = Integer.toString(Math.max(0, value));
        return random.nextInt(5) == 0 ? "0".repeat(random.nextInt(8)) + text : text;
    }

    private void spoil(StringBuilder text) {
        int at = random.nextInt(text.length() + 1);
        char c = "0123456789/*g+.:-Gx \0".charAt(random.nextInt(21));
        switch (random.nextInt(3)) {
            case 0 -> text.setLength(at);
            case 1 -> text.insert(at, c);
            default -> text.replace(at, Math.min(at + 1, text.length()), String.valueOf(c));
        }
    }

    private void ask(int call) {
        switch (random.nextInt(10)) {
            case 0 -> {
                int node = node(), part = between(0, 1);
                same(call, "rate", x().rate(node, part), m.rate(node, part));
                same(call, "again", x().again(node, part), m.rate(node, part));
            }
            case 1 -> {
                int node = node(), what = between(0, 10);
                same(call, "node", x().node(node, what), m.node(node, what));
            }
            case 2 -> {
                int node = leafNode(), what = between(0, 5);
                same(call, "ofLeaf", x().ofLeaf(node, what), m.ofLeaf(node, what));
            }
            case 3 -> {
                int group = between(0, 3), what = between(0, 6);
                same(call, "ofGroup", x().ofGroup(group, what), m.ofGroup(group, what));
            }
            case 4 -> {
                int node = node();
                same(call, "power", x().power(node), m.power(node));
                same(call, "power of all", x().power(-1), m.power(-1));
            }
            case 5 -> askWay(call);
            case 6 -> {
                int i = between(0, 23);
                same(call, "ranked", x().ranked(i), m.ranked(i));
            }
            case 7 -> {
                int what = between(0, 11);
                same(call, "account", x().account(what), m.account(what));
            }
            case 8 -> {
                int budget = budget();
                same(call, "wouldShed " + budget, x().wouldShed(budget), m.wouldShed(budget));
            }
            default -> {
                int what = between(0, 2);
                same(call, "count", x().count(what), m.count(what));
            }
        }
    }

    private void askWay(int call) {
        int n = random.nextInt(m.count(0));
        long above = m.rate(n, 0), below = m.rate(n, 1);
        for (int i = random.nextInt(4); i > 0; i--) {
            if (random.nextBoolean()) {
                above *= 1 + random.nextInt(9);
            } else {
                below *= 1 + random.nextInt(9);
            }
        }
        if (above > 4000000 || below > 9999 || random.nextInt(20) == 0) {
            above = between(1, 4000000);
            below = between(1, 9999);
        }
        for (int what = 0; what < 4; what++) {
            int w = random.nextInt(50) == 0 ? any(-1, 4) : what;
            same(call, "way " + above + " " + below, x().way((int) above, (int) below, w),
                    m.way((int) above, (int) below, w));
        }
    }

    private void compareAll(int call) {
        for (int n = -2; n < 25; n++) {
            for (int what = -1; what < 12; what++) {
                same(call, "node " + n + " " + what, x().node(n, what), m.node(n, what));
                same(call, "ofLeaf " + n + " " + what, x().ofLeaf(n, what), m.ofLeaf(n, what));
                same(call, "ofGroup " + n + " " + what, x().ofGroup(n, what), m.ofGroup(n, what));
            }
            for (int part = -1; part < 3; part++) {
                same(call, "rate " + n, x().rate(n, part), m.rate(n, part));
                same(call, "again " + n, x().again(n, part), m.rate(n, part));
            }
            same(call, "power " + n, x().power(n), m.power(n));
            same(call, "ranked " + n, x().ranked(n), m.ranked(n));
            same(call, "account " + n, x().account(n), m.account(n));
            same(call, "count " + n, x().count(n), m.count(n));
        }
    }
}
