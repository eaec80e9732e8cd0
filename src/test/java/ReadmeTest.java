import java.io.IOException;
import java.nio.file.Files;
import java.nio.file.Path;
import java.util.ArrayList;
import java.util.List;
import java.util.Set;
import java.util.TreeSet;
import java.util.regex.Matcher;
import java.util.regex.Pattern;

/** The example in README.md: each call with the answer that stands behind it, in its order. */
public final class ReadmeTest {
    private static final Check check = new Check();
    private static final List<String> lines = new ArrayList<>();
    private static int at = 0;

    public static void main(String[] args) throws IOException {
        String text = Files.readString(Path.of("README.md"));
        Matcher line = Pattern.compile("(?m)^(x\\..*); +// (-?[0-9]+):").matcher(text);
        while (line.find()) {
            lines.add(line.group(1) + " is " + line.group(2));
        }
        example();
        check.due("calls of the example", at, lines.size());
        everyCallIsNamed(text);
        check.end();
    }

    private static void answers(String call, long got) {
        String due = at < lines.size() ? lines.get(at) : "nothing more";
        String seen = call + " is " + got;
        check.isTrue("README.md has " + due + ", and " + seen, due.equals(seen));
        at++;
    }

    private static void example() {
        ClockPlanner x = new ClockPlanner();
        answers("x.add(0, 1, 2)", x.add(0, 1, 2));
        answers("x.add(1, 3, 2)", x.add(1, 3, 2));
        answers("x.leaf(2, 0, 400, 600, 5)", x.leaf(2, 0, 400, 600, 5));
        answers("x.rate(3, 0)", x.rate(3, 0));
        answers("x.tune(1, 3)", x.tune(1, 3));
        answers("x.reason()", x.reason());
        answers("x.leaf(2, 0, 0, 1000, 1)", x.leaf(2, 0, 0, 1000, 1));
        answers("x.set(3, 0, 30)", x.set(3, 0, 30));
        answers("x.limit(0, 10)", x.limit(0, 10));
        answers("x.mend(0)", x.mend(0));
        answers("x.set(3, 1, 3)", x.set(3, 1, 3));
        answers("x.power(-1)", x.power(-1));
        answers("x.wouldShed(1000)", x.wouldShed(1000));
        answers("x.shed(1000)", x.shed(1000));
        answers("x.back()", x.back());
        answers("x.way(1500, 1, 0)", x.way(1500, 1, 0));
        answers("x.way(1500, 1, 1)", x.way(1500, 1, 1));
        answers("x.way(1500, 1, 2)", x.way(1500, 1, 2));
        answers("x.feed(5, '1', '*', '3', '+', '7')", x.feed(5, '1', '*', '3', '+', '7'));
        answers("x.lay()", x.lay());
        answers("x.image()", x.image());
        answers("x.remove(6)", x.remove(6));
        answers("x.undo()", x.undo());
    }

    private static void everyCallIsNamed(String text) {
        Set<String> names = new TreeSet<>();
        for (var method : ClockPlanner.class.getMethods()) {
            if (method.getDeclaringClass() == ClockPlanner.class) {
                names.add(method.getName());
            }
        }
        for (String name : names) {
            check.isTrue("README.md names " + name, text.contains("`" + name + "`"));
        }
    }
}
