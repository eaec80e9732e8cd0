import java.util.ArrayList;
import java.util.List;

/**
 * Two planners that are made in two ways and then asked for everything there is: what they tell,
 * what their changes lead back to, what their snapshots hold, and what stands on their tapes. Each
 * look takes new planners, so that none of them is used for more than 512 calls.
 */
final class Twins {
    /** Calls that make a planner what it is to be. */
    interface Calls {
        void on(ClockPlanner x);
    }

    interface Call {
        long on(ClockPlanner x);
    }

    private final Check check;

    Twins(Check check) {
        this.check = check;
    }

    static ClockPlanner made(Calls calls) {
        ClockPlanner x = new ClockPlanner();
        calls.on(x);
        return x;
    }

    /** A call that answers NONE, BAD, STATE without a reason or FULL, and changes nothing. */
    void error(String what, Calls calls, Call call, int due) {
        ClockPlanner x = made(calls);
        int reason = x.reason();
        check.due(what, call.on(x), due);
        check.due(what + ", the reason before", x.reason(), reason);
        unchanged(what, calls, call);
    }

    /** A call that answers STATE with a reason, and changes nothing else. */
    void refused(String what, Calls calls, Call call, int reason) {
        ClockPlanner x = made(calls);
        check.refused(what, x, call.on(x), reason);
        unchanged(what, calls, call);
    }

    /** A path of which a part is refused, so that nothing changes; the calls leave no tape. */
    void refusedPart(String text, Calls calls, int part, int reason) {
        check.refusedPart(text, made(calls), part, reason);
        unchanged("lay of " + text, calls, x -> Check.lay(x, text));
    }

    /** A call that succeeds, is a change, and is undone without a trace by back(). */
    void undone(String what, Calls calls, Call call) {
        ClockPlanner x = made(calls);
        int before = x.count(2);
        check.isTrue(what + " succeeds", call.on(x) >= 0);
        check.due(what + " is a change", x.count(2), before + 1);
        check.due(what + ", then back()", x.back(), before);
        same(what + " and back()", calls, y -> {
            calls.on(y);
            call.on(y);
            y.back();
        });
    }

    /** A call whose work the snapshot from before it takes away again. */
    void restored(String what, Calls calls, Call call) {
        check.isTrue(what + " succeeds", call.on(made(calls)) >= 0);
        same(what + " and undo()", x -> {
            calls.on(x);
            x.image();
            x.undo();
        }, x -> {
            calls.on(x);
            x.image();
            call.on(x);
            x.undo();
        });
    }

    void unchanged(String what, Calls calls, Call call) {
        same(what, calls, x -> {
            calls.on(x);
            call.on(x);
        });
    }

    void same(String what, Calls one, Calls other) {
        for (int backs = 0; backs <= 6; backs++) {
            int times = backs;
            look(what + ", then " + times + " times back()", one, other, x -> {
                long answer = 0;
                for (int i = 0; i < times; i++) {
                    answer = answer * 10 + x.back();
                }
                return answer;
            });
        }
        look(what + ", then undo()", one, other, ClockPlanner::undo);
        look(what + ", then lay()", one, other, ClockPlanner::lay);
    }

    private void look(String what, Calls one, Calls other, Call last) {
        for (int half = 0; half < 2; half++) {
            List<String> due = pictureAfter(one, last, half);
            List<String> got = pictureAfter(other, last, half);
            for (int i = 0; i < Math.max(due.size(), got.size()); i++) {
                String wanted = i < due.size() ? due.get(i) : "nothing";
                String seen = i < got.size() ? got.get(i) : "nothing";
                check.isTrue(what + ": " + seen + " where the twin has " + wanted, wanted.equals(seen));
            }
        }
    }

    private static List<String> pictureAfter(Calls calls, Call last, int half) {
        ClockPlanner x = made(calls);
        List<String> lines = new ArrayList<>();
        lines.add("answer " + last.on(x));
        if (half == 0) {
            drawNodes(x, lines);
        } else {
            drawRest(x, lines);
        }
        return lines;
    }

    private static void drawNodes(ClockPlanner x, List<String> lines) {
        for (int n = 0; n < x.count(0); n++) {
            for (int what = 0; what <= 10; what++) {
                lines.add("node(" + n + ", " + what + ") " + x.node(n, what));
            }
        }
    }

    private static void drawRest(ClockPlanner x, List<String> lines) {
        for (int what = 0; what <= 2; what++) {
            lines.add("count(" + what + ") " + x.count(what));
        }
        for (int what = 0; what <= 11; what++) {
            lines.add("account(" + what + ") " + x.account(what));
        }
        for (int n = 0; n < x.count(0); n++) {
            lines.add("rate(" + n + ") " + x.rate(n, 0) + "/" + x.rate(n, 1));
            lines.add("power(" + n + ") " + x.power(n));
            lines.add("ranked(" + n + ") " + x.ranked(n));
        }
        for (int n = 0; n < x.count(0); n++) {
            for (int what = 0; what <= 5 && x.node(n, 0) == 5; what++) {
                lines.add("ofLeaf(" + n + ", " + what + ") " + x.ofLeaf(n, what));
            }
        }
        for (int group = 0; group < 4; group++) {
            for (int what = 0; what <= 6; what++) {
                lines.add("ofGroup(" + group + ", " + what + ") " + x.ofGroup(group, what));
            }
        }
        lines.add("power(-1) " + x.power(-1));
        lines.add("wouldShed " + x.wouldShed((int) (x.power(-1) / 2)));
    }
}
