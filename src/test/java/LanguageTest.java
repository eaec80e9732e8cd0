import java.io.IOException;
import java.nio.file.Files;
import java.nio.file.Path;
import java.util.regex.Matcher;
import java.util.regex.Pattern;

/** Those rules of ../shared/LANGUAGE.md that can be seen in the text of the class. */
public final class LanguageTest {
    private static final Check check = new Check();

    public static void main(String[] args) throws IOException {
        String whole = Files.readString(Path.of("src/main/java/ClockPlanner.java"));
        String code = withoutCommentsAndTexts(whole);
        never("rule 6", code, "\\b(throw|throws|try|catch|finally|synchronized|assert)\\b");
        never("rule 2", code, "->|::|\\blambda\\b");
        never("rule 4", code, "\\bimport\\b|\\bpackage\\b|\\w+Exact\\b|\\bSystem\\.(?!arraycopy)");
        never("rule 6", code, "\\.(equals|hashCode|toString)\\s*\\(");
        never("rule 13", code, "\\b(Random|Thread|Runtime|nanoTime|currentTimeMillis|getenv)\\b");
        never("rule 9", code, "for\\s*\\(\\s*;\\s*;|while\\s*\\(\\s*true\\s*\\)");
        never("rule 5", code, "\\bstatic\\s+(?!final|class)(int|long|boolean|char|String)(\\[\\])?\\s+\\w+\\s*[=;]");
        never("rule 5", code, "\\bstatic\\s*\\{");
        check.isTrue("rule 11: some twelve classes", count(code, "\\bclass\\s+\\w+") <= 12);
        longestMethod(code);
        check.end();
    }

    private static String withoutCommentsAndTexts(String text) {
        return text.replaceAll("(?s)/\\*.*?\\*/", "").replaceAll("//[^\\n]*", "").replaceAll("\"[^\"\\n]*\"", "\"\"");
    }

    private static void never(String rule, String code, String pattern) {
        Matcher m = Pattern.compile(pattern).matcher(code);
        boolean found = m.find();
        check.isTrue(rule + " forbids " + (found ? m.group() : pattern), !found);
    }

    private static int count(String code, String pattern) {
        Matcher m = Pattern.compile(pattern).matcher(code);
        int sum = 0;
        while (m.find()) {
            sum++;
        }
        return sum;
    }

    /** Methods begin with four or eight spaces and a bracket at the end, and end with the same spaces. */
    private static void longestMethod(String code) {
        String[] lines = code.split("\n");
        for (int i = 0; i < lines.length; i++) {
            Matcher m = Pattern.compile("^( {4}| {8})(?! )[\\w\\[\\] <>]+\\w\\(([^()]*)\\) \\{$").matcher(lines[i]);
            if (!m.find() || lines[i].matches(" *(if|for|while|switch|else|return).*")) {
                continue;
            }
            int end = i;
            while (end < lines.length && !lines[end].equals(m.group(1) + "}")) {
                end++;
            }
            check.isTrue("rule 11: " + lines[i].strip() + " has some sixty lines", end - i <= 60);
            check.isTrue("rule 11: seven parameters", m.group(2).split(",").length <= 7);
        }
    }
}
