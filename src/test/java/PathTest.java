import java.util.ArrayList;
import java.util.List;

/** The paragraph "Paths" and lay: a test for each sentence that names a boundary. */
public final class PathTest {
    private static final String WHOLE = "0/2*3g4+56.1:78-90";
    private static final Check check = new Check();
    private static final Twins twins = new Twins(check);

    public static void main(String[] args) {
        digitsOfNumbers();
        zerosAtTheFront();
        digitsBehindSigns();
        endsTooEarly();
        everyByteAtEveryPlace();
        bytesThatAreLeftOrPutIn();
        texts40BytesLong();
        partsThatCanBeLeftOut();
        partsThatCanBeRepeated();
        beginsAtTheFirstNumber();
        childOfThisKindAndNumber();
        childAsNodeTellsItBy2();
        lowestOfSeveral();
        childAndNotGrandchild();
        newOnesAreMade();
        leafAtLast();
        numberAlone();
        boundsThatDoNotFit();
        delaysThatDoNotFit();
        partsAreCounted();
        firstPartThatIsRefused();
        tapeIsEmptiedAlways();
        bytesOfEarlierTexts();
        wrongTextsChangeNothing();
        check.end();
    }

    private static void wrong(String text, int position) {
        check.due("lay of '" + text + "'", Check.lay(new ClockPlanner(), text), -100 - position);
    }

    private static void right(String text, int made) {
        check.due("lay of '" + text + "'", Check.lay(new ClockPlanner(), text), made);
    }

    private static void digitsOfNumbers() {
        check.says("A number has 1 to 7 digits");
        String[] before = {"", "0+", "0.0:", "0.0:0-"};
        String[] behind = {"", "", "-4000000", ""};
        for (int place = 0; place < 4; place++) {
            int start = before[place].length();
            wrong(before[place], start);
            for (int digits = 1; digits <= 7; digits++) {
                String text = before[place] + "0".repeat(digits) + behind[place];
                right(text, place == 0 ? 0 : 1);
            }
            for (int digits = 8; digits <= 12; digits++) {
                wrong(before[place] + "0".repeat(digits) + behind[place], start + 7);
            }
            wrong(before[place] + "00000000x", start + 7);
            wrong(before[place] + "0000000x", start + 7);
            wrong(before[place] + "x", start);
        }
        check.due("the greatest first number", Check.lay(new ClockPlanner(), "9999999"), -200);
        check.due("the greatest delay", Check.lay(new ClockPlanner(), "0+9999999"), -201);
        check.due("the greatest bounds", Check.lay(new ClockPlanner(), "0.0:9999999-9999999"), -201);
        wrong("10000000", 7);
    }

    private static void zerosAtTheFront() {
        check.says("zeros at the front allowed");
        ClockPlanner x = new ClockPlanner();
        check.due("a buffer", Check.lay(x, "0000000+0000099"), 1);
        check.due("its delay", x.node(1, 3), 99);
        check.due("the same one", Check.lay(x, "00+099"), 0);
        check.due("a leaf", Check.lay(x, "0000001.3:0000007-0000070"), 1);
        check.due("its low bound", x.ofLeaf(2, 0), 7);
        check.due("its high bound", x.ofLeaf(2, 1), 70);
        check.due("the leaf alone", Check.lay(x, "0000002"), 0);
        check.due("behind it", Check.lay(x, "0000003"), -200);
    }

    private static void digitsBehindSigns() {
        check.says("digits are 1 to 9 behind \"/\" and \"*\", 0 to 4 behind \"g\", and 0 to 3 behind the point");
        String signs = "/*g.";
        int[] least = {1, 1, 0, 0};
        int[] most = {9, 9, 4, 3};
        for (int i = 0; i < 4; i++) {
            for (int b = 0; b <= 127; b++) {
                String text = "0" + signs.charAt(i) + (char) b + (i == 3 ? ":1-2" : "");
                if (b >= '0' + least[i] && b <= '0' + most[i]) {
                    right(text, 1);
                } else {
                    wrong(text, 2);
                }
            }
            wrong("0" + signs.charAt(i) + "11", 3);
        }
    }

    private static void endsTooEarly() {
        check.says("or its length if it ends too early");
        // Where the high bound has one digit only, the bounds do not fit.
        int[] due = {-100, 0, -102, 1, -104, 2, -106, 3, -108, 4, 4, -111, -112, -113, -114, -115, -116, -205, 5};
        for (int length = 0; length <= WHOLE.length(); length++) {
            String text = WHOLE.substring(0, length);
            check.due("lay of '" + text + "'", Check.lay(new ClockPlanner(), text), due[length]);
        }
    }

    /** What the model, which reads by a pattern, answers to a text. */
    private static int modelled(String text) {
        Model model = new Model();
        for (int i = 0; i < text.length(); i++) {
            model.feed(1, text.charAt(i), 0, 0, 0, 0);
        }
        return model.lay();
    }

    private static void asModelled(String text) {
        check.due("lay of '" + text + "'", Check.lay(new ClockPlanner(), text), modelled(text));
    }

    private static void everyByteAtEveryPlace() {
        check.says("The error position of a text is the index of its first byte with which no such text can continue");
        for (int at = 0; at <= WHOLE.length(); at++) {
            for (int b = 0; b <= 127; b++) {
                asModelled(WHOLE.substring(0, at) + (char) b);
                if (at < WHOLE.length()) {
                    asModelled(WHOLE.substring(0, at) + (char) b + WHOLE.substring(at + 1));
                }
            }
        }
    }

    private static void bytesThatAreLeftOrPutIn() {
        check.says("The error position of a text is the index of its first byte with which no such text can continue");
        for (int at = 0; at < WHOLE.length(); at++) {
            asModelled(WHOLE.substring(0, at) + WHOLE.substring(at + 1));
            for (char c : "0123456789/*g+.:-".toCharArray()) {
                asModelled(WHOLE.substring(0, at) + c + WHOLE.substring(at));
            }
        }
        for (String part : new String[] {"/2", "*3", "g4", "+56", ".1:78-90"}) {
            for (String other : new String[] {"/2", "*3", "g4", "+56", ".1:78-90"}) {
                asModelled("0" + part + other);
                asModelled(part + other);
                asModelled("0" + part + other + "/");
            }
        }
    }

    private static void texts40BytesLong() {
        check.says("or its length if it ends too early");
        String steps = "0" + "/1".repeat(19);
        check.due("39 bytes", steps.length(), 39);
        wrong(steps + "/", 40);
        wrong(steps + ".", 40);
        wrong(steps + "1", 39);
        twins.refusedPart(steps, x -> { }, 7, 2);
        wrong("0" + "+1".repeat(17) + ".0:1-", 40);
        twins.refusedPart("0" + "+1".repeat(16) + ".0:1-23", x -> { }, 7, 2);
        right("0+0000001+0000002+0000003+0000004+000005", 5);
        right("0/2/2/2/2/2.0:0000001-0000002", 6);
        wrong("0".repeat(40), 7);
        wrong("0000000+0000000+0000000+0000000+00000000", 39);
        right("0000000+0000000+0000000+0000000+0000000", 4);
    }

    private static void partsThatCanBeLeftOut() {
        check.says("where brackets mean that the part can be left out and braces that it can be repeated or left out");
        right("0", 0);
        right("0/1", 1);
        right("0.0:0-0", 1);
        right("0/1.0:0-0", 2);
        wrong("", 0);
        wrong("/1", 0);
        wrong(".0:0-0", 0);
        wrong("0:0-0", 1);
        wrong("0.:0-0", 2);
        wrong("0.0", 3);
        wrong("0.00-0", 3);
        wrong("0.0:-0", 4);
        wrong("0.0:0", 5);
        wrong("0.0:0.0", 5);
    }

    private static void partsThatCanBeRepeated() {
        check.says("where brackets mean that the part can be left out and braces that it can be repeated or left out");
        for (String step : new String[] {"/1", "*1", "g0", "+1"}) {
            for (int times = 0; times <= 6; times++) {
                right("0" + step.repeat(times), times);
                if (times < 6) {
                    right("0" + step.repeat(times) + ".0:0-0", times + 1);
                }
            }
            wrong("0.0:0-0" + step, 7);
        }
        wrong("0.0:0-0.0:0-0", 7);
        wrong("00.0:0-0.", 8);
        wrong("0 ", 1);
    }

    private static void beginsAtTheFirstNumber() {
        check.says("The path begins at the node with the first number");
        for (int start = 0; start <= 7; start++) {
            ClockPlanner x = Twins.made(Plans::rich);
            int due = start == 5 || start == 6 ? -201 : 1;
            check.due("from " + start, Check.lay(x, start + "/7"), due);
            check.due("the new one's parent", x.node(8, 1), due == 1 ? start : -1);
        }
        twins.refusedPart("8/7", Plans::rich, 0, 1);
        twins.refusedPart("8", Plans::rich, 0, 1);
        twins.refusedPart("23/7", Plans::rich, 0, 1);
        twins.refusedPart("24/7", Plans::rich, 0, 1);
        twins.refusedPart("9999999.0:2-1", Plans::rich, 0, 1);
        ClockPlanner full = Twins.made(y -> Plans.fill(y, 24));
        check.due("from the last one of 24", Check.lay(full, "23"), 0);
        check.due("from behind it", Check.lay(full, "24"), -200);
    }

    private static void childOfThisKindAndNumber() {
        check.says("to the child of this kind whose number, rule or delay, as node tells it by 2, is this one");
        String[] steps = {"/3", "*3", "g3", "+3"};
        ClockPlanner x = new ClockPlanner();
        x.leaf(0, 3, 0, 0, 1);
        for (int i = 0; i < 4; i++) {
            check.due("0" + steps[i], Check.lay(x, "0" + steps[i]), 1);
            check.due("its kind", x.node(i + 2, 0), i + 1);
        }
        for (String step : steps) {
            check.due("0" + step + " again", Check.lay(x, "0" + step), 0);
        }
        for (String step : new String[] {"/2", "*4", "g2", "+4"}) {
            check.due("0" + step, Check.lay(x, "0" + step), 1);
        }
        check.due("count(0)", x.count(0), 10);
    }

    private static void childAsNodeTellsItBy2() {
        check.says("to the child of this kind whose number, rule or delay, as node tells it by 2, is this one");
        ClockPlanner x = new ClockPlanner();
        Check.lay(x, "0/3");
        Check.lay(x, "0g2");
        Check.lay(x, "0+5");
        x.tune(1, 4);
        x.tune(2, 0);
        x.set(3, 0, 6);
        check.due("node(3, 2)", x.node(3, 2), 5);
        check.due("the number that was tuned", Check.lay(x, "0/4"), 0);
        check.due("the rule that was tuned", Check.lay(x, "0g0"), 0);
        check.due("the delay with which it was added", Check.lay(x, "0+5"), 0);
        check.due("the number before", Check.lay(x, "0/3"), 1);
        check.due("the rule before", Check.lay(x, "0g2"), 1);
        check.due("the delay that was set", Check.lay(x, "0+6"), 1);
        check.due("count(0)", x.count(0), 7);
    }

    private static void lowestOfSeveral() {
        check.says("and of several the one with the lowest number, if there is one");
        ClockPlanner x = new ClockPlanner();
        x.add(0, 1, 2);
        x.add(0, 1, 3);
        x.add(0, 1, 3);
        x.add(0, 1, 3);
        check.due("a child of the lowest", Check.lay(x, "0/3*5"), 1);
        check.due("its parent", x.node(5, 1), 2);
        x.remove(5);
        x.remove(2);
        check.due("a child of the lowest that is left", Check.lay(x, "0/3*5"), 1);
        check.due("its parent", x.node(4, 1), 2);
        ClockPlanner second = new ClockPlanner();
        second.add(0, 1, 3);
        second.add(0, 1, 3);
        second.add(2, 2, 5);
        check.due("not the one with the wanted child", Check.lay(second, "0/3*5"), 1);
        check.due("its parent", second.node(4, 1), 1);
    }

    private static void childAndNotGrandchild() {
        check.says("to the child of this kind");
        ClockPlanner x = new ClockPlanner();
        check.due("one below the other", Check.lay(x, "0/2/2/2"), 3);
        check.due("the rate of the last", x.rate(3, 0), 125);
        check.due("from the second", Check.lay(x, "1/2"), 0);
        check.due("below the last", Check.lay(x, "3/2"), 1);
        check.due("a node elsewhere is no child", Check.lay(x, "0*2/2"), 2);
        check.due("its parent", x.node(6, 1), 5);
    }

    private static void newOnesAreMade() {
        check.says("and otherwise to a new one, which is made");
        ClockPlanner x = new ClockPlanner();
        check.due("all are new", Check.lay(x, "0/9*9g4+99"), 4);
        check.due("two are new", Check.lay(x, "0/9*9g0+99"), 2);
        check.due("one is new", Check.lay(x, "0/9*9g4+98"), 1);
        check.due("none is new", Check.lay(x, "0/9*9g4+98"), 0);
        check.due("a leaf alone is new", Check.lay(x, "0/9*9g4+98.0:0-0"), 1);
        int[] kinds = {0, 1, 2, 3, 4, 3, 4, 4, 5};
        int[] numbers = {0, 9, 9, 4, 99, 0, 99, 98, 0};
        int[] parents = {-5, 0, 1, 2, 3, 2, 5, 3, 7};
        for (int n = 0; n < 9; n++) {
            check.due("kind of " + n, x.node(n, 0), kinds[n]);
            check.due("number of " + n, x.node(n, 2), numbers[n]);
            check.due("parent of " + n, x.node(n, 1), parents[n]);
            check.due("delay of " + n, x.node(n, 3), kinds[n] == 4 ? numbers[n] : 0);
            check.due("load of " + n, x.node(n, 4), 0);
        }
    }

    private static void leafAtLast() {
        check.says("Behind the point, a leaf of this group with these bounds and the priority 1 is made at last.");
        ClockPlanner x = new ClockPlanner();
        for (int group = 0; group <= 3; group++) {
            check.due("a leaf", Check.lay(x, "0." + group + ":" + group + "-4000000"), 1);
            int n = group + 1;
            check.due("group", x.node(n, 2), group);
            check.due("low bound", x.ofLeaf(n, 0), group);
            check.due("high bound", x.ofLeaf(n, 1), 4000000);
            check.due("priority", x.ofLeaf(n, 2), 1);
            check.due("it requests", x.ofLeaf(n, 3), 1);
            check.due("pad", x.ofLeaf(n, 4), 0);
        }
        check.due("the same once more is new", Check.lay(x, "0.3:3-4000000"), 1);
        check.due("leaves", x.account(5), 5);
        check.due("both bounds at the end", Check.lay(x, "0.0:4000000-4000000"), 1);
        check.due("both bounds 0", Check.lay(x, "0.0:0-0"), 1);
    }

    private static void numberAlone() {
        check.says("A path that is a number alone, also of a leaf, lays nothing and is a change.");
        for (int n = 0; n <= 7; n++) {
            int node = n;
            check.due("lay of " + n, Check.lay(Twins.made(Plans::rich), "" + n), 0);
            twins.undone("lay of " + n, Plans::rich, x -> Check.lay(x, "" + node));
        }
        twins.same("a path of nodes that are there", x -> {
            Plans.rich(x);
            Check.lay(x, "5");
        }, x -> {
            Plans.rich(x);
            Check.lay(x, "0/2*3g2+7");
        });
    }

    private static void boundsThatDoNotFit() {
        check.says("The bounds of a leaf in a path are refused with the reason 4 if they do not fit.");
        right("0.0:0-4000000", 1);
        right("0.0:4000000-4000000", 1);
        right("0.0:5-5", 1);
        for (String bounds : new String[] {"0-4000001", "4000001-4000001", "5-4", "1-0", "4000001-0", "4000000-3999999",
            "0-9999999", "9999999-9999999"}) {
            twins.refusedPart("0.0:" + bounds, Plans::rich, 1, 4);
            twins.refusedPart("0/2/3.0:" + bounds, Plans::rich, 3, 4);
        }
    }

    private static void delaysThatDoNotFit() {
        check.says("4 a number is out of range");
        right("0+0", 1);
        right("0+99", 1);
        for (String delay : new String[] {"100", "0000100", "999", "9999999"}) {
            twins.refusedPart("0+" + delay, Plans::rich, 1, 4);
            twins.refusedPart("0/5+" + delay + "/2", Plans::rich, 2, 4);
        }
    }

    private static void partsAreCounted() {
        check.says("0 the first number, with the reason 1, then the steps and the leaf from 1 on");
        String[] steps = {"/2", "*3", "g4", "+5", "/6"};
        StringBuilder text = new StringBuilder("0");
        for (int part = 1; part <= 5; part++) {
            twins.refusedPart(text + "+100", x -> { }, part, 4);
            twins.refusedPart(text + ".0:2-1", x -> { }, part, 4);
            text.append(steps[part - 1]);
        }
        twins.refusedPart(text + "+100", x -> { }, 6, 4);
        twins.refusedPart(text + ".0:2-1", x -> { }, 6, 4);
        check.says("with the reason 1 (a node that is a leaf at the beginning, at the first part behind it)");
        twins.refusedPart("5/2/2", Plans::rich, 1, 1);
        twins.refusedPart("5/2/2.0:0-1", Plans::rich, 1, 1);
        twins.refusedPart("5.0:0-1", Plans::rich, 1, 1);
    }

    private static void firstPartThatIsRefused() {
        check.says("-200 minus the number of the part that is refused, and then nothing is laid");
        twins.refusedPart("8+100", Plans::rich, 0, 1);
        twins.refusedPart("0*9*9*9*9+100", x -> { }, 4, 5);
        twins.refusedPart("0+100*9*9*9*9", x -> { }, 1, 4);
        twins.refusedPart("0/2/2/2/2/2/2/2.0:2-1", x -> { }, 7, 2);
        twins.refusedPart("0/5/6/7/8+100", Plans::rich, 5, 4);
        twins.refusedPart("0/2*3g2+7/5.0:2-1", Plans::rich, 6, 4);
        check.says("-100 minus the error position if the text is wrong");
        check.due("a wrong text with parts that would be refused", Check.lay(new ClockPlanner(), "9+100x"), -105);
    }

    private static void tapeIsEmptiedAlways() {
        check.says("except that lay empties the tape always");
        List<String> texts = new ArrayList<>(List.of("0", "0/2", "0.0:0-1", "x", "0/", "0/0", "9", "0+100", "0.0:1-0"));
        texts.add("0".repeat(40));
        for (String text : texts) {
            ClockPlanner x = new ClockPlanner();
            check.due("feed", Check.feed(x, text), text.length());
            x.lay();
            check.due("bytes behind lay of " + text, x.count(1), 0);
            check.due("lay of nothing", x.lay(), -100);
            check.due("feed from the beginning", x.feed(5, '0', '/', '2', '*', '3'), 5);
            check.isTrue("lay of what was fed then", x.lay() >= 0);
        }
    }

    private static void bytesOfEarlierTexts() {
        check.says("or its length if it ends too early");
        for (int length = 0; length < WHOLE.length(); length++) {
            ClockPlanner x = new ClockPlanner();
            String text = WHOLE.substring(0, length);
            check.due("the whole text", Check.lay(x, WHOLE), 5);
            x.back();
            check.due("lay of '" + text + "' behind it", Check.lay(x, text), modelled(text));
        }
    }

    private static void wrongTextsChangeNothing() {
        check.says("A call that returns an error code leaves the state unchanged");
        for (String text : new String[] {"", "x", "0/", "0/2x", "0/5*2.", "0/5*2.0:1-", "0/5*2.0:1-2x", "00000000"}) {
            ClockPlanner x = Twins.made(Plans::rich);
            int reason = x.reason();
            check.isTrue("lay of '" + text + "' is wrong", Check.lay(x, text) <= -100);
            check.due("the reason before", x.reason(), reason);
            twins.unchanged("lay of '" + text + "'", Plans::rich, y -> Check.lay(y, text));
        }
    }
}
