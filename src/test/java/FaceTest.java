import java.lang.reflect.Constructor;
import java.lang.reflect.Field;
import java.lang.reflect.Member;
import java.lang.reflect.Method;
import java.lang.reflect.Modifier;
import java.util.Arrays;
import java.util.Set;
import java.util.TreeSet;

/** The public face is the document's, no more and no less. */
public final class FaceTest {
    private static final Set<String> FACE = new TreeSet<>(Arrays.asList(
            "NONE int", "new (int)",
            "haul(int) int", "caught(int, int, int) boolean", "out(int, boolean) boolean", "arm(int) int",
            "pair(int, int) int", "pairs() int", "difference(int, int) int", "kept(int) int", "sum(int) int",
            "odds(int, int) long", "rank(int, int) int", "rankOdds(int, int) long",
            "stopped(int, int, int) int", "crossing(int, int, int, int) long", "least(int, int, int, int) int",
            "mean(int, int, int) long", "weight(int, int, int) long", "joined(int, int) long",
            "reader(int, int, int) boolean", "unlike(int) int", "price(int, int) void", "lost() long"));

    public static void main(String[] args) {
        Checks checks = new Checks("FaceTest");
        Set<String> seen = new TreeSet<>();
        Set<String> publicNames = new TreeSet<>();
        for (Field field : DeviceTrials.class.getDeclaredFields()) {
            if (isSeen(field)) {
                seen.add(field.getName() + " " + field.getType());
            }
        }
        for (Constructor<?> made : DeviceTrials.class.getDeclaredConstructors()) {
            if (isSeen(made)) {
                seen.add("new " + types(made.getParameterTypes()));
            }
        }
        for (Method method : DeviceTrials.class.getDeclaredMethods()) {
            if (isSeen(method)) {
                seen.add(method.getName() + types(method.getParameterTypes()) + " " + method.getReturnType());
                publicNames.add(method.getName());
            }
        }
        checks.due("the face", FACE, () -> seen);
        checks.due("the class is public and final", Modifier.PUBLIC | Modifier.FINAL,
                () -> DeviceTrials.class.getModifiers());
        checks.due("NONE", -1, () -> DeviceTrials.NONE);
        for (Method method : DeviceTrials.class.getDeclaredMethods()) {
            boolean twice = !isSeen(method) && publicNames.contains(method.getName());
            checks.due("a private method bears a public one's name: " + method.getName(), false, () -> twice);
        }
        checks.end();
    }

    private static boolean isSeen(Member member) {
        return !Modifier.isPrivate(member.getModifiers());
    }

    private static String types(Class<?>[] types) {
        String list = Arrays.toString(types);
        return "(" + list.substring(1, list.length() - 1) + ")";
    }
}
