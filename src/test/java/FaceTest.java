import java.lang.reflect.Constructor;
import java.lang.reflect.Field;
import java.lang.reflect.Method;
import java.lang.reflect.Modifier;
import java.util.Set;
import java.util.TreeSet;

/** The public face is the document's, and no other member of the class can be seen from outside. */
public final class FaceTest {
    private static final String FACE = "int source(int);int add(int,int,int);int leaf(int,int,int,int,int);"
            + "int set(int,int,int);int tune(int,int);int request(int,int);int limit(int,int);int remove(int);"
            + "int mend(int);int shed(int);int wouldShed(int);int feed(int,int,int,int,int,int);int lay();"
            + "int reason();long rate(int,int);long again(int,int);int node(int,int);int ofLeaf(int,int);"
            + "int ofGroup(int,int);long power(int);int way(int,int,int);int ranked(int);int account(int);"
            + "int back();int image();int undo();int count(int)";

    public static void main(String[] args) {
        Check check = new Check();
        Set<String> due = new TreeSet<>(Set.of(FACE.split(";")));
        Set<String> seen = new TreeSet<>();
        Set<String> publicNames = new TreeSet<>();
        for (Method m : ClockPlanner.class.getDeclaredMethods()) {
            if (Modifier.isPublic(m.getModifiers())) {
                seen.add(faceOf(m));
                publicNames.add(m.getName());
            } else {
                check.isTrue(m + " is private", Modifier.isPrivate(m.getModifiers()) || m.isSynthetic());
            }
        }
        check.isTrue("methods " + seen + " are " + due, seen.equals(due));
        for (Method m : ClockPlanner.class.getDeclaredMethods()) {
            boolean hides = Modifier.isPrivate(m.getModifiers()) && publicNames.contains(m.getName());
            check.isTrue(m + " has a name of its own", !hides);
        }
        checkFields(check);
        for (Constructor<?> c : ClockPlanner.class.getDeclaredConstructors()) {
            check.isTrue(c + " is the public one", Modifier.isPublic(c.getModifiers()) && c.getParameterCount() == 0);
        }
        for (Class<?> c : ClockPlanner.class.getDeclaredClasses()) {
            check.isTrue(c + " is static", Modifier.isStatic(c.getModifiers()) && !Modifier.isPublic(c.getModifiers()));
        }
        int modifiers = ClockPlanner.class.getModifiers();
        check.isTrue("the class is public and final", Modifier.isPublic(modifiers) && Modifier.isFinal(modifiers));
        check.due("NONE", ClockPlanner.NONE, -1);
        check.due("BAD", ClockPlanner.BAD, -2);
        check.due("STATE", ClockPlanner.STATE, -3);
        check.due("FULL", ClockPlanner.FULL, -4);
        check.end();
    }

    private static void checkFields(Check check) {
        Set<String> names = new TreeSet<>();
        for (Field f : ClockPlanner.class.getDeclaredFields()) {
            if (Modifier.isPublic(f.getModifiers())) {
                names.add(f.getName());
            } else {
                check.isTrue(f + " is private", Modifier.isPrivate(f.getModifiers()) || f.isSynthetic());
            }
        }
        check.isTrue("constants " + names, names.equals(Set.of("NONE", "BAD", "STATE", "FULL")));
    }

    private static String faceOf(Method m) {
        StringBuilder text = new StringBuilder(m.getReturnType() + " " + m.getName() + "(");
        String comma = "";
        for (Class<?> type : m.getParameterTypes()) {
            text.append(comma).append(type);
            comma = ",";
        }
        return text.append(")").toString();
    }
}
