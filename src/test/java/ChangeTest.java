import java.util.LinkedHashMap;
import java.util.Map;

/**
 * The paragraphs "Changes", "Snapshot" and "In doubt": a test for each sentence that names a
 * boundary.
 */
public final class ChangeTest {
    private static final int STATE = -3;
    private static final Check check = new Check();
    private static final Twins twins = new Twins(check);

    public static void main(String[] args) {
        eachChangeIsUndone();
        whatIsNoChange();
        refusalsAreNoChanges();
        sixAtMost();
        latestFirst();
        backAndForth();
        removalsAreUndone();
        changesOfAFullTree();
        backOfTheTape();
        stillUndone();
        snapshotOfEverything();
        snapshotWithoutTheRest();
        snapshotStays();
        inPlaceOfAnEarlierOne();
        noChangesThen();
        noSnapshot();
        snapshotOfFewerAndMore();
        staysAsItIs();
        secondWay();
        counts();
        check.end();
    }

    /** One successful call of each kind that is a change, on the tree of Plans.rich. */
    private static Map<String, Twins.Call> changes() {
        Map<String, Twins.Call> calls = new LinkedHashMap<>();
        calls.put("source", x -> x.source(1300));
        calls.put("add", x -> x.add(2, 2, 5));
        calls.put("leaf", x -> x.leaf(7, 2, 3, 4, 5));
        for (int i = 0; i < 8; i++) {
            int node = i;
            calls.put("set of the delay of " + i, x -> x.set(node, 0, 77));
            calls.put("set of the load of " + i, x -> x.set(node, 1, 8));
        }
        calls.put("tune of a divider", x -> x.tune(1, 5));
        calls.put("tune of a multiplier", x -> x.tune(2, 8));
        calls.put("tune of a gate", x -> x.tune(3, 3));
        calls.put("request of one that did", x -> x.request(5, 0));
        calls.put("request of one that did not", x -> x.request(6, 1));
        for (int i = 0; i < 4; i++) {
            int group = i;
            calls.put("limit of group " + i, x -> x.limit(group, 3));
        }
        calls.put("remove of a leaf", x -> x.remove(5));
        calls.put("remove of the last", x -> x.remove(7));
        calls.put("shed", x -> x.shed(0));
        calls.put("lay", x -> Check.lay(x, "0/7+4.2:5-6"));
        return calls;
    }

    private static void twoSkewed(ClockPlanner x) {
        x.leaf(0, 0, 0, 0, 1);
        x.leaf(0, 0, 0, 0, 1);
        x.set(1, 0, 30);
        x.limit(0, 10);
    }

    private static void eachChangeIsUndone() {
        check.says("The successful calls of source, add, leaf, set, tune, request, limit, remove, mend, shed and lay are "
                + "changes");
        changes().forEach((name, call) -> twins.undone(name, Plans::rich, call));
        twins.undone("mend", ChangeTest::twoSkewed, x -> x.mend(0));
        check.due("mend", Twins.made(ChangeTest::twoSkewed).mend(0), 20);
        twins.undone("lay of nodes that are there", Plans::rich, x -> Check.lay(x, "0/2*3"));
    }

    private static void whatIsNoChange() {
        check.says("are changes; at most 6 of them can be undone");
        Map<String, Twins.Call> calls = new LinkedHashMap<>();
        calls.put("wouldShed", x -> x.wouldShed(0));
        calls.put("feed", x -> x.feed(1, 48, 0, 0, 0, 0));
        calls.put("reason", x -> x.reason());
        calls.put("rate", x -> x.rate(1, 0));
        calls.put("again", x -> x.again(1, 0));
        calls.put("node", x -> x.node(1, 0));
        calls.put("ofLeaf", x -> x.ofLeaf(5, 0));
        calls.put("ofGroup", x -> x.ofGroup(1, 4));
        calls.put("power", x -> x.power(-1));
        calls.put("way", x -> x.way(200, 7, 0));
        calls.put("ranked", x -> x.ranked(3));
        calls.put("account", x -> x.account(11));
        calls.put("image", x -> x.image());
        calls.put("count", x -> x.count(2));
        calls.put("lay of a wrong text", x -> Check.lay(x, "0/"));
        calls.forEach((name, call) -> {
            ClockPlanner x = Twins.made(Plans::rich);
            call.on(x);
            check.due("changes behind " + name, x.count(2), 4);
            check.due("back() behind " + name, x.back(), 3);
            if (!name.equals("feed") && !name.equals("image")) {
                twins.unchanged(name, Plans::rich, call);
            }
        });
    }

    private static void refusalsAreNoChanges() {
        check.says("The successful calls of source, add, leaf, set, tune, request, limit, remove, mend, shed and lay are "
                + "changes");
        ClockPlanner x = Twins.made(Plans::rich);
        x.source(0);
        x.add(0, 1, 0);
        x.leaf(0, 0, 1, 0, 1);
        x.set(0, 0, 100);
        x.tune(1, 0);
        x.request(5, 2);
        x.limit(0, 1000);
        x.remove(1);
        x.mend(4);
        x.shed(-1);
        Check.lay(x, "0+100");
        check.due("count(2)", x.count(2), 4);
    }

    private static void sixAtMost() {
        check.says("at most 6 of them can be undone, the latest first");
        for (int changes = 0; changes <= 14; changes++) {
            ClockPlanner x = new ClockPlanner();
            for (int i = 1; i <= changes; i++) {
                x.source(i);
                check.due("changes", x.count(2), Math.min(i, 6));
            }
            int undone = Math.min(changes, 6);
            for (int i = 1; i <= undone; i++) {
                check.due("back() " + i + " of " + changes, x.back(), undone - i);
                check.due("changes", x.count(2), undone - i);
                check.due("rate", x.rate(0, 0), changes - i == 0 ? 1000 : changes - i);
            }
            check.due("one more back()", x.back(), STATE);
            check.due("and one more", x.back(), STATE);
            check.due("rate", x.rate(0, 0), changes <= 6 ? 1000 : changes - 6);
            check.due("a change then", x.source(77), changes <= 6 ? 1000 : changes - 6);
            check.due("count(2)", x.count(2), 1);
        }
    }

    private static void latestFirst() {
        check.says("Undoes the latest change that was not undone.");
        ClockPlanner x = new ClockPlanner();
        for (int i = 1; i <= 4; i++) {
            x.source(i);
        }
        check.due("back()", x.back(), 3);
        check.due("back()", x.back(), 2);
        check.due("rate", x.rate(0, 0), 2);
        check.due("a new change", x.source(9), 2);
        check.due("back()", x.back(), 2);
        check.due("rate", x.rate(0, 0), 2);
        check.due("back()", x.back(), 1);
        check.due("rate", x.rate(0, 0), 1);
        check.due("back()", x.back(), 0);
        check.due("rate", x.rate(0, 0), 1000);
        check.due("back()", x.back(), STATE);
    }

    /** Changes and backs in turn against a plain list of what was. */
    private static void turns(int changes, int backs) {
        ClockPlanner x = new ClockPlanner();
        java.util.ArrayDeque<Integer> past = new java.util.ArrayDeque<>();
        int rate = 1000;
        int next = 1;
        for (int turn = 0; turn < 12; turn++) {
            for (int i = 0; i < changes; i++) {
                past.push(rate);
                if (past.size() > 6) {
                    past.removeLast();
                }
                rate = next++;
                x.source(rate);
            }
            for (int i = 0; i < backs; i++) {
                rate = past.isEmpty() ? rate : past.peek();
                int due = past.isEmpty() ? STATE : past.size() - 1;
                past.poll();
                check.due(changes + " changes, " + backs + " times back()", x.back(), due);
                check.due("rate", x.rate(0, 0), rate);
            }
            check.due("count(2)", x.count(2), past.size());
        }
    }

    private static void backAndForth() {
        check.says("at most 6 of them can be undone, the latest first");
        for (int changes = 0; changes <= 8; changes++) {
            for (int backs = 0; backs <= 8; backs++) {
                turns(changes, backs);
            }
        }
    }

    private static void removalsAreUndone() {
        check.says("Undoes the latest change that was not undone.");
        for (int gone = 1; gone <= 7; gone++) {
            int node = gone;
            for (int backs = 0; backs <= 4; backs++) {
                int times = backs;
                Twins.Calls before = x -> {
                    Plans.rich(x);
                    for (int i = 0; i < times; i++) {
                        x.back();
                    }
                };
                if (Twins.made(before).node(node, 8) == 0) {
                    twins.undone("remove(" + node + ")", before, x -> x.remove(node));
                }
            }
        }
    }

    /** 24 nodes, of which 14 to 23 are leaves of group 0 below a gate, with delays and loads. */
    private static void full(ClockPlanner x) {
        x.add(0, 2, 3);
        x.add(1, 3, 2);
        Plans.fill(x, 14);
        for (int n = 14; n <= 23; n++) {
            x.leaf(2, 0, 3000, 3000 * (n - 13), 1);
            x.set(n, 1, n - 14);
        }
        x.set(23, 0, 50);
        x.limit(0, 10);
        x.image();
        x.undo();
    }

    private static void changesOfAFullTree() {
        check.says("The successful calls of source, add, leaf, set, tune, request, limit, remove, mend, shed and lay are "
                + "changes");
        check.due("mend", Twins.made(ChangeTest::full).mend(0), 9 * 40);
        check.due("shed", Twins.made(ChangeTest::full).shed(0), 10);
        check.due("request", Twins.made(ChangeTest::full).request(23, 0), 1);
        check.due("remove", Twins.made(ChangeTest::full).remove(23), 23);
        check.due("tune", Twins.made(ChangeTest::full).tune(1, 3), 3);
        twins.undone("mend", ChangeTest::full, x -> x.mend(0));
        twins.undone("shed", ChangeTest::full, x -> x.shed(0));
        twins.undone("request", ChangeTest::full, x -> x.request(23, 0));
        twins.undone("remove of the last", ChangeTest::full, x -> x.remove(23));
        twins.undone("remove of another", ChangeTest::full, x -> x.remove(3));
        twins.undone("source", ChangeTest::full, x -> x.source(1000));
        twins.undone("tune", ChangeTest::full, x -> x.tune(1, 3));
        twins.undone("set", ChangeTest::full, x -> x.set(23, 1, 1));
        twins.refused("source for the last leaf", ChangeTest::full, x -> x.source(10001), 6);
        twins.refused("tune for the last leaf", ChangeTest::full, x -> x.tune(1, 2), 6);
        twins.refused("source for the rate", ChangeTest::full, x -> x.source(1000000), 6);
    }

    private static void backOfTheTape() {
        check.says("Undoes the latest change that was not undone.");
        ClockPlanner x = new ClockPlanner();
        check.due("lay", Check.lay(x, "0/2"), 1);
        check.due("back()", x.back(), 0);
        check.due("nodes", x.count(0), 1);
        check.due("the tape stays empty", x.count(1), 0);
        Check.feed(x, "0/3");
        x.source(5);
        check.due("back()", x.back(), 0);
        check.due("the tape stays", x.count(1), 3);
        check.due("lay", x.lay(), 1);
        check.due("its number", x.node(1, 2), 3);
    }

    private static void stillUndone() {
        check.says("Returns the number of changes that can still be undone; STATE if there is none.");
        ClockPlanner x = new ClockPlanner();
        check.due("none", x.back(), STATE);
        x.source(1);
        check.due("one", x.back(), 0);
        check.due("none any more", x.back(), STATE);
        check.due("that keeps no reason", x.reason(), -5);
    }

    private static void snapshotOfEverything() {
        check.says("The snapshot contains everything but itself, the tape, the reason and the changes that can be undone.");
        changes().forEach((name, call) -> twins.restored(name, Plans::rich, call));
        twins.restored("mend", ChangeTest::twoSkewed, x -> x.mend(0));
        twins.restored("several", Plans::rich, x -> {
            x.source(1300);
            x.limit(3, 7);
            x.remove(5);
            x.remove(4);
            x.add(0, 3, 1);
            x.back();
            x.mend(1);
            return x.leaf(0, 0, 0, 0, 1);
        });
    }

    private static void snapshotWithoutTheRest() {
        check.says("The snapshot contains everything but itself, the tape, the reason and the changes that can be undone.");
        ClockPlanner x = new ClockPlanner();
        x.source(0);
        Check.feed(x, "0/2");
        x.source(7);
        x.image();
        check.due("lay", x.lay(), 1);
        x.remove(9);
        Check.feed(x, "0*3");
        check.due("undo()", x.undo(), 1);
        check.due("the reason stays as it is", x.reason(), 1);
        check.due("the tape stays as it is", x.count(1), 3);
        check.due("no changes", x.count(2), 0);
        check.due("lay", x.lay(), 1);
        check.due("what was on the tape", x.node(1, 0), 2);
        x.image();
        Check.feed(x, "0g1");
        x.undo();
        check.due("the tape stays", x.count(1), 3);
        x.lay();
        x.undo();
        check.due("an empty tape stays", x.count(1), 0);
    }

    private static void snapshotStays() {
        check.says("Restores the snapshot, which stays.");
        ClockPlanner x = Twins.made(Plans::rich);
        x.image();
        for (int i = 0; i < 3; i++) {
            x.source(1 + i);
            x.remove(7);
            x.request(5, 0);
            check.due("undo()", x.undo(), 8);
            check.due("rate", x.rate(0, 0), 1200);
            check.due("number of the last", x.node(7, 2), 8);
            check.due("request", x.ofLeaf(5, 3), 1);
        }
        check.due("undo() at once", x.undo(), 8);
        twins.same("undo() twice", y -> {
            Plans.rich(y);
            y.undo();
        }, y -> {
            Plans.rich(y);
            y.undo();
            y.undo();
        });
        x.source(5);
        x.back();
        check.due("back() leaves it", x.undo(), 8);
    }

    private static void inPlaceOfAnEarlierOne() {
        check.says("Takes a snapshot, in place of an earlier one.");
        ClockPlanner x = new ClockPlanner();
        check.due("image()", x.image(), 1);
        x.add(0, 1, 2);
        check.due("image()", x.image(), 2);
        check.due("image() is no change", x.count(2), 1);
        x.add(0, 1, 3);
        check.due("undo()", x.undo(), 2);
        x.remove(1);
        check.due("undo()", x.undo(), 2);
        x.remove(1);
        check.due("image()", x.image(), 1);
        x.add(0, 1, 4);
        check.due("undo()", x.undo(), 1);
        ClockPlanner full = Twins.made(y -> Plans.fill(y, 24));
        check.due("image() of 24", full.image(), 24);
        full.remove(23);
        check.due("undo() to 24", full.undo(), 24);
        check.refused("it is full again", full, full.add(0, 1, 1), 3);
    }

    private static void noChangesThen() {
        check.says("No changes can be undone then.");
        for (int changes = 0; changes <= 8; changes++) {
            ClockPlanner x = new ClockPlanner();
            x.image();
            for (int i = 1; i <= changes; i++) {
                x.source(i);
            }
            check.due("undo()", x.undo(), 1);
            check.due("count(2)", x.count(2), 0);
            check.due("back()", x.back(), STATE);
            check.due("rate", x.rate(0, 0), 1000);
            for (int i = 1; i <= 7; i++) {
                x.source(10 * i);
                check.due("changes behind it", x.count(2), Math.min(i, 6));
            }
            for (int i = 5; i >= 0; i--) {
                check.due("back()", x.back(), i);
                check.due("rate", x.rate(0, 0), 10 * (i + 1));
            }
            check.due("back()", x.back(), STATE);
        }
    }

    private static void noSnapshot() {
        check.says("Returns the number of nodes; STATE if there is no snapshot.");
        ClockPlanner x = Twins.made(ChangeTest::twoSkewed);
        int changes = x.count(2);
        check.due("undo()", x.undo(), STATE);
        check.due("that keeps no reason", x.reason(), -5);
        check.due("changes stay", x.count(2), changes);
        check.due("nodes stay", x.count(0), 3);
        check.due("image()", x.image(), 3);
        check.due("undo()", x.undo(), 3);
    }

    private static void snapshotOfFewerAndMore() {
        check.says("Restores the snapshot, which stays.");
        for (int before = 1; before <= 24; before++) {
            for (int behind : new int[] {1, 12, 24}) {
                int first = before;
                ClockPlanner x = Twins.made(y -> Plans.fill(y, first));
                x.image();
                for (int n = before - 1; n >= behind; n--) {
                    x.remove(n);
                }
                for (int n = before; n < behind; n++) {
                    x.add(0, 1, 2);
                }
                check.due("nodes", x.count(0), behind);
                check.due("undo()", x.undo(), before);
                check.due("nodes", x.count(0), before);
                check.due("buffers", x.account(4), before - 1);
                check.due("dividers", x.account(1), 0);
            }
        }
    }

    private static void staysAsItIs() {
        check.says("A number that stays as it is counts as a change.");
        Map<String, Twins.Call> calls = new LinkedHashMap<>();
        calls.put("source", x -> x.source(1200));
        calls.put("set of a delay", x -> x.set(4, 0, 7));
        calls.put("set of a load", x -> x.set(4, 1, 3));
        calls.put("tune of a divider", x -> x.tune(1, 2));
        calls.put("tune of a multiplier", x -> x.tune(2, 3));
        calls.put("tune of a gate", x -> x.tune(3, 2));
        calls.put("request", x -> x.request(5, 1));
        calls.put("request of one that does not", x -> x.request(6, 0));
        calls.put("limit", x -> x.limit(1, 4));
        calls.put("limit that is as at first", x -> x.limit(0, 999));
        calls.forEach((name, call) -> twins.undone(name, Plans::rich, call));
        ClockPlanner x = Twins.made(Plans::rich);
        check.due("source", x.source(1200), 1200);
        check.due("set", x.set(4, 0, 7), 7);
        check.due("tune", x.tune(1, 2), 2);
        check.due("changes", x.count(2), 6);
        for (int i = 5; i >= 3; i--) {
            check.due("back()", x.back(), i);
        }
        check.due("the change before", x.ofLeaf(6, 3), 0);
        check.due("back()", x.back(), 2);
        check.due("the change before", x.ofLeaf(6, 3), 1);
    }

    private static void secondWay() {
        check.says("What is multiplied and divided for again() includes the node itself.");
        ClockPlanner x = new ClockPlanner();
        Check.lay(x, "0/7*3");
        check.due("a divider", x.again(1, 0), 1000);
        check.due("its denominator", x.again(1, 1), 7);
        check.due("a multiplier", x.again(2, 0), 3000);
        check.due("its denominator", x.again(2, 1), 7);
        check.due("the source", x.again(0, 0), 1000);
        check.due("its denominator", x.again(0, 1), 1);
        check.says("in one fraction that is then brought to lowest terms");
        ClockPlanner y = new ClockPlanner();
        y.source(1000000);
        Check.lay(y, "0/9/9/9*9*9*9");
        for (int n = 0; n <= 6; n++) {
            check.due("numerator of " + n, y.again(n, 0), 1000000);
            check.due("denominator of " + n, y.again(n, 1), new int[] {1, 9, 81, 729, 81, 9, 1}[n]);
        }
        ClockPlanner big = new ClockPlanner();
        big.source(7);
        Check.lay(big, "0*9*9*9*9*9*9");
        check.due("the greatest product", big.again(6, 0), 7L * 531441);
        check.due("its denominator", big.again(6, 1), 1);
    }

    private static void counts() {
        check.says("0 the nodes; 1 the bytes on the tape; 2 the changes that can be undone");
        ClockPlanner x = new ClockPlanner();
        check.due("nodes", x.count(0), 1);
        check.due("bytes", x.count(1), 0);
        check.due("changes", x.count(2), 0);
        for (int i = 1; i <= 23; i++) {
            x.add(0, 4, i);
            check.due("nodes", x.count(0), i + 1);
            check.due("changes", x.count(2), Math.min(i, 6));
        }
        for (int i = 1; i <= 40; i++) {
            x.feed(1, 48, 0, 0, 0, 0);
            check.due("bytes", x.count(1), i);
        }
        x.add(0, 4, 1);
        x.feed(1, 48, 0, 0, 0, 0);
        check.due("nodes", x.count(0), 24);
        check.due("bytes", x.count(1), 40);
        check.due("changes", x.count(2), 6);
    }
}
