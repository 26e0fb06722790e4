import java.lang.reflect.Constructor;
import java.lang.reflect.Field;
import java.lang.reflect.Member;
import java.lang.reflect.Method;
import java.lang.reflect.Modifier;
import java.util.Arrays;
import java.util.Set;
import java.util.TreeSet;

/** The public face is the document's, no more and no less. */
public final class FaceTest {
    private static final String INDEX = " throws IndexOutOfBoundsException";
    private static final String ARGUMENT = " throws IllegalArgumentException";
    private static final String STATE = " throws IllegalStateException";

    private static final Set<String> FACE = new TreeSet<>(Arrays.asList(
            "NONE int", "new (int)",
            "haul(int) int" + INDEX + STATE,
            "caught(int, int, int) boolean" + INDEX + ARGUMENT,
            "out(int, boolean) boolean" + INDEX,
            "arm(int) int" + INDEX,
            "pair(int, int) int" + INDEX,
            "pairs() int",
            "difference(int, int) int" + INDEX,
            "kept(int) int" + INDEX,
            "sum(int) int" + INDEX,
            "odds(int, int) long" + INDEX,
            "rank(int, int) int" + INDEX,
            "rankOdds(int, int) long" + INDEX,
            "stopped(int, int, int) int" + INDEX + ARGUMENT,
            "crossing(int, int, int, int) long" + INDEX + ARGUMENT,
            "least(int, int, int, int) int" + ARGUMENT,
            "mean(int, int, int) long" + INDEX,
            "weight(int, int, int) long" + INDEX,
            "joined(int, int) long" + INDEX,
            "reader(int, int, int) boolean" + INDEX + ARGUMENT,
            "unlike(int) int" + INDEX,
            "price(int, int) void" + INDEX + ARGUMENT,
            "lost() long"));

    public static void main(String[] args) {
        Checks checks = new Checks("FaceTest");
        Set<String> seen = new TreeSet<>();
        Set<String> publicNames = new TreeSet<>();
        for (Field field : DeviceTrials.class.getDeclaredFields()) {
            if (isSeen(field)) {
                seen.add(field.getName() + " " + field.getType());
            }
        }
        for (Constructor<?> made : DeviceTrials.class.getDeclaredConstructors()) {
            if (isSeen(made)) {
                seen.add("new " + types(made.getParameterTypes()));
            }
        }
        for (Method method : DeviceTrials.class.getDeclaredMethods()) {
            if (isSeen(method)) {
                seen.add(told(method));
                publicNames.add(method.getName());
            }
        }
        checks.due("the face", FACE, () -> seen);
        checks.due("the class is public and final", Modifier.PUBLIC | Modifier.FINAL,
                () -> DeviceTrials.class.getModifiers());
        checks.due("NONE", -1, () -> DeviceTrials.NONE);
        for (Method method : DeviceTrials.class.getDeclaredMethods()) {
            boolean twice = !isSeen(method) && publicNames.contains(method.getName());
            checks.due("a private method bears a public one's name: " + method.getName(), false, () -> twice);
        }
        checks.end();
    }

    private static boolean isSeen(Member member) {
        return !Modifier.isPrivate(member.getModifiers());
    }

    private static String told(Method method) {
        StringBuilder told = new StringBuilder(method.getName());
        told.append(types(method.getParameterTypes())).append(' ').append(method.getReturnType());
        for (Class<?> thrown : method.getExceptionTypes()) {
            told.append(" throws ").append(thrown.getSimpleName());
        }
        return told.toString();
    }

    private static String types(Class<?>[] types) {
        String list = Arrays.toString(types);
        return "(" + list.substring(1, list.length() - 1) + ")";
    }
}
