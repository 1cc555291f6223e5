import java.lang.reflect.Constructor;
import java.lang.reflect.Field;
import java.lang.reflect.Member;
import java.lang.reflect.Method;
import java.lang.reflect.Modifier;
import java.util.TreeSet;

/** The public face: what the document's "The public face" tells, with its exceptions, and nothing beside it. */
public final class FaceTests {
    private static final String[] FACE = {
        "int rung(int, char, int, int) IllegalArgumentException IllegalStateException",
        "int contact(int, char, int) NoSuchElementException IllegalArgumentException IllegalStateException",
        "int step() IllegalStateException",
        "int action(int, char, int, int) NoSuchElementException IllegalArgumentException IllegalStateException",
        "int transition(int, int, int, int, int, boolean)"
            + " NoSuchElementException IllegalArgumentException IllegalStateException",
        "int emptyDraft()",
        "int takeOver() UnsupportedOperationException",
        "boolean setInput(int, boolean) IllegalArgumentException",
        "int force(int, int) IllegalArgumentException",
        "int setPeriod(int, int) IllegalArgumentException",
        "int setStart(int) IllegalArgumentException",
        "int setWatch(int, int) IllegalArgumentException",
        "int lose(int) IllegalArgumentException",
        "int setHold(int) IllegalArgumentException",
        "int pass(int) IllegalArgumentException IllegalStateException",
        "boolean acknowledge(int) IllegalArgumentException",
        "int shelve(int, int) IllegalArgumentException",
        "boolean fail()",
        "boolean come()",
        "int reset()",
        "int bit(int) IllegalArgumentException",
        "int given(int) IllegalArgumentException",
        "int number(int) IllegalArgumentException",
        "int timer(int) IllegalArgumentException",
        "boolean isActive(int) IllegalArgumentException",
        "int stepTime(int) IllegalArgumentException NoSuchElementException",
        "char alarm(int) IllegalArgumentException",
        "int alarms()",
        "int alarmAt(int) IndexOutOfBoundsException",
        "int time()",
        "int scans(int) IllegalArgumentException",
        "int missed(int) IllegalArgumentException",
        "boolean isStopped()",
        "boolean isInStep()",
        "int rungs()",
        "int forced()",
        "int changes(int) IllegalArgumentException",
        "long done()",
        "float activeShare() ArithmeticException",
        "double meanRungs() ArithmeticException",
        "boolean isSound()",
    };

    public static void main(String[] args) {
        methodsAreTheFace();
        nothingElseIsSeen();
        Check.end();
    }

    private static void methodsAreTheFace() {
        TreeSet<String> due = new TreeSet<>();
        for (String line : FACE) {
            due.add(line);
        }
        TreeSet<String> got = new TreeSet<>();
        TreeSet<String> publicNames = new TreeSet<>();
        for (Method method : Rungmaster.class.getDeclaredMethods()) {
            if (Modifier.isPublic(method.getModifiers())) {
                got.add(text(method));
                publicNames.add(method.getName());
            }
        }
        Check.same("the face", String.join("\n", got), String.join("\n", due));
        for (Method method : Rungmaster.class.getDeclaredMethods()) {
            boolean isPrivate = Modifier.isPrivate(method.getModifiers());
            Check.same(method + " is private with a public name",
                isPrivate && publicNames.contains(method.getName()), false);
        }
    }

    private static String text(Method method) {
        StringBuilder text = new StringBuilder(method.getReturnType().getSimpleName());
        text.append(' ').append(method.getName()).append('(');
        String gap = "";
        for (Class<?> type : method.getParameterTypes()) {
            text.append(gap).append(type.getSimpleName());
            gap = ", ";
        }
        text.append(')');
        for (Class<?> type : method.getExceptionTypes()) {
            text.append(' ').append(type.getSimpleName());
        }
        return text.toString();
    }

    private static void nothingElseIsSeen() {
        int modifiers = Rungmaster.class.getModifiers();
        Check.same("public and final", Modifier.isPublic(modifiers) && Modifier.isFinal(modifiers), true);
        Check.same("constructors", Rungmaster.class.getDeclaredConstructors().length, 1);
        for (Constructor<?> constructor : Rungmaster.class.getDeclaredConstructors()) {
            Check.same("public", Modifier.isPublic(constructor.getModifiers()), true);
            Check.same("without arguments", constructor.getParameterCount(), 0);
        }
        for (Field field : Rungmaster.class.getDeclaredFields()) {
            isHidden(field);
        }
        for (Method method : Rungmaster.class.getDeclaredMethods()) {
            if (!Modifier.isPublic(method.getModifiers())) {
                isHidden(method);
            }
        }
    }

    private static void isHidden(Member member) {
        boolean isHidden = Modifier.isPrivate(member.getModifiers()) || member.isSynthetic();
        Check.same(member.getName() + " is private", isHidden, true);
    }
}
