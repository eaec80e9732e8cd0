import java.math.BigInteger;
import java.util.ArrayDeque;
import java.util.ArrayList;
import java.util.Comparator;
import java.util.Deque;
import java.util.List;
import java.util.regex.Matcher;
import java.util.regex.Pattern;

/**
 * The document a second time, as plainly as can be and with none of the class's code: nodes are
 * objects that know their parent, everything is reckoned anew for each question, rates are
 * fractions of big integers, and searches try all there is.
 */
final class Model {
    static final int NONE = -1, BAD = -2, STATE = -3, FULL = -4, NIL = -5;
    private static final Pattern PATH = Pattern.compile(
            "[0-9]{1,7}(/[1-9]|\\*[1-9]|g[0-4]|\\+[0-9]{1,7})*(\\.[0-3]:[0-9]{1,7}-[0-9]{1,7})?");

    static final class Node {
        Node parent;
        int kind, number, delay, load, low, high, priority, pad;
        boolean asks;
    }

    static final class World {
        int rate = 1000;
        List<Node> nodes = new ArrayList<>();
        int[] limits = {999, 999, 999, 999};

        World copy() {
            World w = new World();
            w.rate = rate;
            w.limits = limits.clone();
            for (Node n : nodes) {
                Node c = new Node();
                c.parent = n.parent == null ? null : w.nodes.get(nodes.indexOf(n.parent));
                c.kind = n.kind;
                c.number = n.number;
                c.delay = n.delay;
                c.load = n.load;
                c.low = n.low;
                c.high = n.high;
                c.priority = n.priority;
                c.pad = n.pad;
                c.asks = n.asks;
                w.nodes.add(c);
            }
            return w;
        }
    }

    record Fraction(BigInteger up, BigInteger down) {
        static Fraction of(BigInteger up, BigInteger down) {
            BigInteger g = up.gcd(down);
            return new Fraction(up.divide(g), down.divide(g));
        }

        static Fraction of(long up, long down) {
            return of(BigInteger.valueOf(up), BigInteger.valueOf(down));
        }

        Fraction times(long x) {
            return of(up.multiply(BigInteger.valueOf(x)), down);
        }

        Fraction by(long x) {
            return of(up, down.multiply(BigInteger.valueOf(x)));
        }

        int compare(Fraction o) {
            return up.multiply(o.down).compareTo(o.up.multiply(down));
        }

        boolean above(long x) {
            return compare(of(x, 1)) > 0;
        }
    }

    World w = new World();
    World shot = null;
    Deque<World> past = new ArrayDeque<>();
    StringBuilder tape = new StringBuilder();
    int why = NIL;

    Model() {
        w.nodes.add(new Node());
    }

    private Node at(int n) {
        return n >= 0 && n < w.nodes.size() ? w.nodes.get(n) : null;
    }

    private static int depth(Node n) {
        return n.parent == null ? 0 : 1 + depth(n.parent);
    }

    private static boolean isBelow(Node n, Node top) {
        return n.parent != null && (n.parent == top || isBelow(n.parent, top));
    }

    private static Fraction rateOf(World w, Node n) {
        if (n.parent == null) {
            return Fraction.of(w.rate, 1);
        }
        Fraction above = rateOf(w, n.parent);
        return n.kind == 1 ? above.by(n.number) : n.kind == 2 ? above.times(n.number) : above;
    }

    private static boolean content(World w, Node n) {
        Fraction r = rateOf(w, n);
        return n.kind == 5 && !r.above(n.high) && r.compare(Fraction.of(n.low, 1)) >= 0;
    }

    private static int leavesBelow(World w, Node top, boolean asking) {
        int sum = 0;
        for (Node n : w.nodes) {
            if (n.kind == 5 && isBelow(n, top) && (n.asks || !asking)) {
                sum++;
            }
        }
        return sum;
    }

    private static boolean open(World w, Node gate) {
        int all = leavesBelow(w, gate, false);
        int asking = leavesBelow(w, gate, true);
        return switch (gate.number) {
            case 0 -> true;
            case 1 -> false;
            case 2 -> asking >= 1;
            case 3 -> asking == all && all >= 1;
            default -> asking > all - asking;
        };
    }

    private static boolean runs(World w, Node n) {
        return (n.kind != 3 || open(w, n)) && (n.parent == null || runs(w, n.parent));
    }

    private static int arrival(Node n) {
        return n.delay + (n.kind == 5 ? n.pad : 0) + (n.parent == null ? 0 : arrival(n.parent));
    }

    private static long powerOf(World w, Node n) {
        Fraction p = rateOf(w, n).times(n.load);
        return runs(w, n) ? p.up.divide(p.down).longValueExact() : 0;
    }

    private static long powerOf(World w) {
        long sum = 0;
        for (Node n : w.nodes) {
            sum += powerOf(w, n);
        }
        return sum;
    }

    private int no(int reason) {
        why = reason;
        return STATE;
    }

    private void change(World next) {
        past.push(w);
        if (past.size() > 6) {
            past.removeLast();
        }
        w = next;
    }

    private int tryRates(World next, int answer) {
        for (Node n : next.nodes) {
            if (rateOf(next, n).above(4000000)) {
                return no(5);
            }
        }
        for (int i = 0; i < next.nodes.size(); i++) {
            if (content(w, w.nodes.get(i)) && !content(next, next.nodes.get(i))) {
                return no(6);
            }
        }
        change(next);
        return answer;
    }

    int source(int rate) {
        if (rate < 1 || rate > 1000000) {
            return no(4);
        }
        World next = w.copy();
        next.rate = rate;
        return tryRates(next, w.rate);
    }

    private static boolean fits(int kind, int number) {
        return switch (kind) {
            case 1, 2 -> number >= 1 && number <= 9;
            case 3 -> number >= 0 && number <= 4;
            default -> number >= 0 && number <= 99;
        };
    }

    /** Makes a node in a world, or answers the reason why not. */
    private static int grow(World w, int parent, Node made) {
        Node above = parent >= 0 && parent < w.nodes.size() ? w.nodes.get(parent) : null;
        if (above == null || above.kind == 5) {
            return 1;
        }
        if (depth(above) + 1 > 6) {
            return 2;
        }
        long leaves = w.nodes.stream().filter(n -> n.kind == 5).count();
        if (w.nodes.size() + 1 > 24 || made.kind == 5 && leaves + 1 > 10) {
            return 3;
        }
        if (made.kind == 5) {
            boolean low = made.low >= 0 && made.low <= 4000000;
            boolean high = made.high >= 0 && made.high <= 4000000;
            if (!low || !high || made.low > made.high || made.priority < 1 || made.priority > 9) {
                return 4;
            }
        } else if (!fits(made.kind, made.number)) {
            return 4;
        }
        made.parent = above;
        if (rateOf(w, made).above(4000000)) {
            return 5;
        }
        w.nodes.add(made);
        return 0;
    }

    private static Node fresh(int kind, int number) {
        Node n = new Node();
        n.kind = kind;
        n.number = number;
        n.delay = kind == 4 ? number : 0;
        return n;
    }

    private static Node freshLeaf(int group, int low, int high, int priority) {
        Node n = fresh(5, group);
        n.low = low;
        n.high = high;
        n.priority = priority;
        n.asks = true;
        return n;
    }

    private int growOrRefuse(int parent, Node made) {
        World next = w.copy();
        int reason = grow(next, parent, made);
        if (reason != 0) {
            return no(reason);
        }
        change(next);
        return next.nodes.size() - 1;
    }

    int add(int parent, int kind, int number) {
        return kind < 1 || kind > 4 ? NONE : growOrRefuse(parent, fresh(kind, number));
    }

    int leaf(int parent, int group, int low, int high, int priority) {
        return group < 0 || group > 3 ? NONE : growOrRefuse(parent, freshLeaf(group, low, high, priority));
    }

    int set(int node, int what, int value) {
        if (what != 0 && what != 1) {
            return NONE;
        }
        if (at(node) == null) {
            return no(1);
        }
        if (value < 0 || value > (what == 0 ? 99 : 9)) {
            return no(4);
        }
        int before = what == 0 ? at(node).delay : at(node).load;
        change(w.copy());
        if (what == 0) {
            at(node).delay = value;
        } else {
            at(node).load = value;
        }
        return before;
    }

    int tune(int node, int number) {
        if (at(node) == null) {
            return no(1);
        }
        int kind = at(node).kind;
        if (kind == 0 || kind > 3) {
            return NONE;
        }
        if (!fits(kind, number)) {
            return no(4);
        }
        World next = w.copy();
        next.nodes.get(node).number = number;
        return tryRates(next, at(node).number);
    }

    int request(int node, int is) {
        if (at(node) == null || at(node).kind != 5) {
            return NONE;
        }
        if (is != 0 && is != 1) {
            return BAD;
        }
        change(w.copy());
        at(node).asks = is == 1;
        return account(8);
    }

    int limit(int group, int limit) {
        if (group < 0 || group > 3) {
            return NONE;
        }
        if (limit < 0 || limit > 999) {
            return BAD;
        }
        change(w.copy());
        w.limits[group] = limit;
        return ofGroup(group, 0) <= limit ? 1 : 0;
    }

    int remove(int node) {
        if (node == 0) {
            return NONE;
        }
        if (at(node) == null) {
            return no(1);
        }
        if (w.nodes.stream().anyMatch(n -> n.parent == at(node))) {
            return no(7);
        }
        change(w.copy());
        w.nodes.remove(node);
        return w.nodes.size();
    }

    int mend(int group) {
        if (group < 0 || group > 3) {
            return NONE;
        }
        World next = w.copy();
        int sum = 0;
        List<Node> running = running(next, group);
        int latest = running.stream().mapToInt(Model::arrival).max().orElse(0);
        for (Node n : running) {
            while (arrival(n) < latest - next.limits[group]) {
                n.pad++;
                sum++;
            }
            if (n.pad > 99) {
                return no(8);
            }
        }
        change(next);
        return sum;
    }

    private static List<Node> running(World w, int group) {
        return w.nodes.stream().filter(n -> n.kind == 5 && n.number == group && runs(w, n)).toList();
    }

    int shed(int budget) {
        int set = wouldShed(budget);
        if (set == BAD) {
            return BAD;
        }
        if (set == NIL) {
            return no(9);
        }
        change(without(set));
        return Integer.bitCount(set);
    }

    private World without(int set) {
        World next = w.copy();
        for (int n = 0; n < next.nodes.size(); n++) {
            if ((set >> n & 1) == 1) {
                next.nodes.get(n).asks = false;
            }
        }
        return next;
    }

    int wouldShed(int budget) {
        if (budget < 0 || budget > 2000000000) {
            return BAD;
        }
        List<Integer> asking = new ArrayList<>();
        for (int n = 0; n < w.nodes.size(); n++) {
            if (w.nodes.get(n).kind == 5 && w.nodes.get(n).asks) {
                asking.add(n);
            }
        }
        int[] best = null;
        for (int mask = 0; mask < 1 << asking.size(); mask++) {
            int[] row = new int[3];
            for (int i = 0; i < asking.size(); i++) {
                if ((mask >> i & 1) == 1) {
                    row[0] += w.nodes.get(asking.get(i)).priority;
                    row[1]++;
                    row[2] |= 1 << asking.get(i);
                }
            }
            if ((best == null || java.util.Arrays.compare(row, best) < 0) && powerOf(without(row[2])) <= budget) {
                best = row;
            }
        }
        return best == null ? NIL : best[2];
    }

    int feed(int n, int... bytes) {
        if (n < 1 || n > 5) {
            return BAD;
        }
        for (int b : bytes) {
            if (b < 0 || b > 127) {
                return BAD;
            }
        }
        if (tape.length() + n > 40) {
            return FULL;
        }
        for (int i = 0; i < n; i++) {
            tape.append((char) bytes[i]);
        }
        return tape.length();
    }

    private static boolean canContinue(String text) {
        Matcher m = PATH.matcher(text);
        return m.matches() || m.hitEnd();
    }

    int lay() {
        String text = tape.toString();
        tape.setLength(0);
        for (int i = 0; i < text.length(); i++) {
            if (!canContinue(text.substring(0, i + 1))) {
                return -100 - i;
            }
        }
        if (!PATH.matcher(text).matches()) {
            return -100 - text.length();
        }
        String[] halves = text.split("\\.");
        List<String> parts = new ArrayList<>();
        Matcher m = Pattern.compile("[/*g+]?[0-9]+").matcher(halves[0]);
        while (m.find()) {
            parts.add(m.group());
        }
        World next = w.copy();
        int here = Integer.parseInt(parts.get(0));
        if (here >= next.nodes.size()) {
            no(1);
            return -200;
        }
        for (int i = 1; i < parts.size(); i++) {
            int kind = "?/*g+".indexOf(parts.get(i).charAt(0));
            int number = Integer.parseInt(parts.get(i).substring(1));
            int child = child(next, here, kind, number);
            if (child < 0) {
                int reason = grow(next, here, fresh(kind, number));
                if (reason != 0) {
                    no(reason);
                    return -200 - i;
                }
                child = next.nodes.size() - 1;
            }
            here = child;
        }
        if (halves.length > 1) {
            String[] n = halves[1].split("[:-]");
            Node leaf = freshLeaf(Integer.parseInt(n[0]), Integer.parseInt(n[1]), Integer.parseInt(n[2]), 1);
            int reason = grow(next, here, leaf);
            if (reason != 0) {
                no(reason);
                return -200 - parts.size();
            }
        }
        int made = next.nodes.size() - w.nodes.size();
        change(next);
        return made;
    }

    private static int child(World w, int parent, int kind, int number) {
        for (int n = 0; n < w.nodes.size(); n++) {
            Node c = w.nodes.get(n);
            if (c.parent == w.nodes.get(parent) && c.kind == kind && c.number == number) {
                return n;
            }
        }
        return -1;
    }

    int reason() {
        return why;
    }

    long rate(int node, int part) {
        if (at(node) == null || part != 0 && part != 1) {
            return NONE;
        }
        Fraction r = rateOf(w, at(node));
        return (part == 0 ? r.up : r.down).longValueExact();
    }

    int node(int node, int what) {
        Node n = at(node);
        if (n == null) {
            return NONE;
        }
        return switch (what) {
            case 0 -> n.kind;
            case 1 -> n.parent == null ? NIL : w.nodes.indexOf(n.parent);
            case 2 -> n.number;
            case 3 -> n.delay;
            case 4 -> n.load;
            case 5 -> depth(n);
            case 6 -> runs(w, n) ? 1 : 0;
            case 7 -> arrival(n);
            case 8 -> (int) w.nodes.stream().filter(c -> c.parent == n).count();
            case 9 -> leavesBelow(w, n, false);
            case 10 -> leavesBelow(w, n, true);
            default -> NONE;
        };
    }

    int ofLeaf(int node, int what) {
        Node n = at(node);
        if (n == null || n.kind != 5) {
            return NONE;
        }
        return switch (what) {
            case 0 -> n.low;
            case 1 -> n.high;
            case 2 -> n.priority;
            case 3 -> n.asks ? 1 : 0;
            case 4 -> n.pad;
            case 5 -> content(w, n) ? 1 : 0;
            default -> NONE;
        };
    }

    int ofGroup(int group, int what) {
        if (group < 0 || group > 3) {
            return NONE;
        }
        List<Node> running = running(w, group);
        Comparator<Node> byArrival = Comparator.comparingInt(Model::arrival);
        Node latest = running.stream().sorted(byArrival.reversed()).findFirst().orElse(null);
        Node earliest = running.stream().sorted(byArrival).findFirst().orElse(null);
        return switch (what) {
            case 0 -> running.size() < 2 ? 0 : arrival(latest) - arrival(earliest);
            case 1 -> w.limits[group];
            case 2 -> (int) w.nodes.stream().filter(n -> n.kind == 5 && n.number == group).count();
            case 3 -> running.size();
            case 4 -> wouldMend(group);
            case 5 -> latest == null ? NIL : w.nodes.indexOf(latest);
            case 6 -> earliest == null ? NIL : w.nodes.indexOf(earliest);
            default -> NONE;
        };
    }

    private int wouldMend(int group) {
        Model other = new Model();
        other.w = w.copy();
        int sum = other.mend(group);
        return sum < 0 ? NIL : sum;
    }

    long power(int node) {
        return node == -1 ? powerOf(w) : at(node) == null ? NONE : powerOf(w, at(node));
    }

    int way(int above, int below, int what) {
        if (what < 0 || what > 3) {
            return NONE;
        }
        if (above < 1 || above > 4000000 || below < 1 || below > 9999) {
            return BAD;
        }
        Fraction wanted = Fraction.of(above, below);
        int[] best = null;
        for (int n = 0; n < w.nodes.size(); n++) {
            Node from = w.nodes.get(n);
            if (from.kind == 5) {
                continue;
            }
            // 0 stands for no new one.
            for (int first = 0; first <= 19; first++) {
                for (int second = 0; second <= (first == 0 ? 0 : 19); second++) {
                    int[] row = {first == 0 ? 0 : second == 0 ? 1 : 2, depth(from), n, first, second};
                    if (isWay(from, row, wanted) && (best == null || java.util.Arrays.compare(row, best) < 0)) {
                        best = row;
                    }
                }
            }
        }
        if (best == null) {
            return NIL;
        }
        int answer = best[new int[] {0, 2, 3, 4}[what]];
        return what >= 2 && answer == 0 ? NIL : answer;
    }

    private boolean isWay(Node from, int[] row, Fraction wanted) {
        Fraction r = rateOf(w, from);
        for (int i = 3; i < 3 + row[0]; i++) {
            if (row[i] == 1 || row[i] == 10 || row[i] == 11) {
                return false;
            }
            r = row[i] < 10 ? r.by(row[i]) : r.times(row[i] - 10);
            if (r.above(4000000)) {
                return false;
            }
        }
        return row[1] + row[0] <= 6 && r.compare(wanted) == 0;
    }

    int ranked(int i) {
        if (i < 0 || i >= w.nodes.size()) {
            return NONE;
        }
        List<Node> order = new ArrayList<>(w.nodes);
        order.sort((a, b) -> rateOf(w, b).compare(rateOf(w, a)));
        return w.nodes.indexOf(order.get(i));
    }

    int account(int what) {
        if (what >= 0 && what <= 5) {
            return (int) w.nodes.stream().filter(n -> n.kind == what).count();
        }
        return switch (what) {
            case 6 -> (int) w.nodes.stream().filter(n -> runs(w, n)).count();
            case 7 -> (int) w.nodes.stream().filter(n -> content(w, n)).count();
            case 8 -> (int) w.nodes.stream().filter(n -> n.kind == 3 && open(w, n)).count();
            case 9 -> w.nodes.stream().mapToInt(n -> n.pad).sum();
            case 10 -> w.nodes.stream().mapToInt(Model::depth).max().orElse(0);
            case 11 -> {
                int set = 0;
                for (int g = 0; g < 4; g++) {
                    set |= ofGroup(g, 0) > w.limits[g] ? 1 << g : 0;
                }
                yield set;
            }
            default -> NONE;
        };
    }

    int back() {
        if (past.isEmpty()) {
            return STATE;
        }
        w = past.pop();
        return past.size();
    }

    int image() {
        shot = w.copy();
        return w.nodes.size();
    }

    int undo() {
        if (shot == null) {
            return STATE;
        }
        w = shot.copy();
        past.clear();
        return w.nodes.size();
    }

    int count(int what) {
        return switch (what) {
            case 0 -> w.nodes.size();
            case 1 -> tape.length();
            case 2 -> past.size();
            default -> NONE;
        };
    }
}
