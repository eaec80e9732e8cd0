import java.io.IOException;
import java.lang.reflect.Constructor;
import java.lang.reflect.Field;
import java.lang.reflect.Method;
import java.lang.reflect.Modifier;
import java.nio.file.Files;
import java.nio.file.Path;
import java.util.Set;
import java.util.regex.Matcher;
import java.util.regex.Pattern;

/** Those rules of ../shared/LANGUAGE.md that can be seen in the text of the class or in its members. */
public final class LanguageTest {
    private static final Check check = new Check();
    /** What of rule 4 the class uses; more of it may be added here when it does. */
    private static final Set<String> LIBRARY = Set.of("Math.min", "Math.max", "Integer.bitCount", "Long.compare");
    private static final Set<Class<?>> CONSTANTS = Set.of(int.class, long.class, boolean.class, char.class,
            String.class, int[].class, long[].class, char[].class, byte[].class);

    public static void main(String[] args) throws IOException {
        String whole = Files.readString(Path.of("src/main/java/ClockPlanner.java"));
        String code = withoutCommentsAndTexts(whole);
        never("rule 6", code, "\\b(throw|throws|try|catch|finally|synchronized|assert)\\b");
        never("rule 2", code, "->|::|\\blambda\\b");
        never("rule 4", code, "\\bimport\\b|\\bpackage\\b|\\w+Exact\\b|\\bSystem\\.(?!arraycopy)");
        never("rule 6", code, "\\.(equals|hashCode|toString)\\s*\\(");
        never("rule 13", code, "\\b(Random|Thread|Runtime|nanoTime|currentTimeMillis|getenv)\\b");
        never("rule 9", code, "for\\s*\\(\\s*;\\s*;|while\\s*\\(\\s*true\\s*\\)");
        never("rule 5", code, "\\bstatic\\s+(?!final|class)(int|long|boolean|char|String)(\\[\\])?\\s+\\w+\\s*[=;]");
        never("rule 5", code, "\\bstatic\\s*\\{");
        check.isTrue("rule 11: some twelve classes", count(code, "\\bclass\\s+\\w+") <= 12);
        longestMethod(code);
        library(code);
        members(ClockPlanner.class);
        for (Class<?> inside : ClockPlanner.class.getDeclaredClasses()) {
            check.isTrue("rule 2: " + inside + " is static", Modifier.isStatic(inside.getModifiers()));
            check.due("rule 2: classes inside " + inside, inside.getDeclaredClasses().length, 0);
            members(inside);
        }
        check.end();
    }

    private static String withoutCommentsAndTexts(String text) {
        return text.replaceAll("(?s)/\\*.*?\\*/", "").replaceAll("//[^\\n]*", "").replaceAll("\"[^\"\\n]*\"", "\"\"");
    }

    private static void never(String rule, String code, String pattern) {
        Matcher m = Pattern.compile(pattern).matcher(code);
        boolean found = m.find();
        check.isTrue(rule + " forbids " + (found ? m.group() : pattern), !found);
    }

    private static int count(String code, String pattern) {
        Matcher m = Pattern.compile(pattern).matcher(code);
        int sum = 0;
        while (m.find()) {
            sum++;
        }
        return sum;
    }

    /** Methods begin with four or eight spaces and a bracket at the end, and end with the same spaces. */
    private static void longestMethod(String code) {
        String[] lines = code.split("\n");
        for (int i = 0; i < lines.length; i++) {
            Matcher m = Pattern.compile("^( {4}| {8})(?! )[\\w\\[\\] <>]+\\w\\(([^()]*)\\) \\{$").matcher(lines[i]);
            if (!m.find() || lines[i].matches(" *(if|for|while|switch|else|return).*")) {
                continue;
            }
            int end = i;
            while (end < lines.length && !lines[end].equals(m.group(1) + "}")) {
                end++;
            }
            check.isTrue("rule 11: " + lines[i].strip() + " has some sixty lines", end - i <= 60);
            check.isTrue("rule 11: seven parameters", m.group(2).split(",").length <= 7);
        }
    }

    private static void library(String code) {
        Matcher m = Pattern.compile("\\b[A-Z]\\w*\\.\\w+").matcher(code);
        while (m.find()) {
            check.isTrue("rule 4: " + m.group() + " is in the library", LIBRARY.contains(m.group()));
        }
    }

    private static void members(Class<?> owner) {
        int fields = 0;
        for (Field f : owner.getDeclaredFields()) {
            if (Modifier.isStatic(f.getModifiers())) {
                check.isTrue("rule 5: " + f + " is final", Modifier.isFinal(f.getModifiers()));
                check.isTrue("rule 5: " + f + " is a constant", CONSTANTS.contains(f.getType()));
            } else {
                check.isTrue("rule 3: " + f + " has a type that is allowed", isAllowed(f.getType()));
                fields++;
            }
        }
        check.isTrue("rule 11: " + owner + " has some twenty fields", fields <= 20);
        for (Method m : owner.getDeclaredMethods()) {
            check.isTrue("rule 11: " + m + " has seven parameters", m.getParameterCount() <= 7);
            check.due("rule 6: exceptions of " + m, m.getExceptionTypes().length, 0);
        }
        for (Constructor<?> c : owner.getDeclaredConstructors()) {
            check.isTrue("rule 11: " + c + " has seven parameters", c.getParameterCount() <= 7);
        }
    }

    /** Numbers, texts, own classes and rows of them; of two dimensions only rows of numbers. */
    private static boolean isAllowed(Class<?> type) {
        if (type.isArray() && type.getComponentType().isArray()) {
            return type.getComponentType().getComponentType().isPrimitive();
        }
        Class<?> plain = type.isArray() ? type.getComponentType() : type;
        return plain.isPrimitive() || plain == String.class && !type.isArray()
                || plain.getEnclosingClass() == ClockPlanner.class;
    }
}
