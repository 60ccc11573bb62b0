import java.lang.reflect.Constructor;
import java.lang.reflect.Field;
import java.lang.reflect.Member;
import java.lang.reflect.Method;
import java.lang.reflect.Modifier;
import java.util.ArrayList;
import java.util.List;
import java.util.Set;
import java.util.TreeSet;

/** The public face: just the document's members are to be seen, and no private method bears a name of theirs. */
final class FaceTest {
    private static final Set<String> DUE = new TreeSet<>(List.of(
        "turned(int, int, long): long", "rest(int, long, long): long", "order(int, long, long): int",
        "meter(int, long): int", "count(int, long): int", "carry(int, int): int", "value(int, int): long",
        "track(int, int, int): int", "share(int, int): int", "form(int): int", "length(int, int): int",
        "write(int, int, int, long): int", "read(int, int, int): long", "feed(int, int, int, int): int",
        "log(int, int, int, int): int", "rack(int, int): int", "hang(int, int, int, int): int",
        "shown(int, int): long", "sum(int, int): long", "many(int, int): int", "finding(): int", "told(int): int",
        "clear(): int", "read throws ClassCastException", "read throws NullPointerException",
        "read throws ArrayIndexOutOfBoundsException", "UNKNOWN = -1", "OUTSIDE = -2", "FULL = -4", "NONE = -5", "new()"));

    public static void main(String[] args) throws IllegalAccessException {
        Set<String> seen = new TreeSet<>();
        for (Method method : MeterHall.class.getDeclaredMethods()) {
            if (isSeen(method)) {
                seen.add(method.getName() + types(method.getParameterTypes()) + ": " + method.getReturnType());
                for (Class<?> thrown : method.getExceptionTypes()) {
                    seen.add(method.getName() + " throws " + thrown.getSimpleName());
                }
            }
        }
        for (Field field : MeterHall.class.getDeclaredFields()) {
            if (isSeen(field)) {
                seen.add(field.getName() + " = " + field.get(null));
            }
        }
        for (Constructor<?> made : MeterHall.class.getDeclaredConstructors()) {
            seen.add("new" + types(made.getParameterTypes()));
        }
        boolean fine = seen.equals(DUE) && Modifier.isFinal(MeterHall.class.getModifiers()) && namesDiffer();
        System.out.println(fine ? "the face is as due" : "the face is " + seen + ", due is " + DUE);
        if (!fine) {
            System.exit(1);
        }
    }

    private static boolean isSeen(Member member) {
        return !Modifier.isPrivate(member.getModifiers());
    }

    private static String types(Class<?>[] types) {
        List<String> names = new ArrayList<>();
        for (Class<?> type : types) {
            names.add(type.getName());
        }
        return "(" + String.join(", ", names) + ")";
    }

    private static boolean namesDiffer() {
        Set<String> face = new TreeSet<>();
        for (Method method : MeterHall.class.getMethods()) {
            face.add(method.getName());
        }
        List<Method> hidden = new ArrayList<>(List.of(MeterHall.class.getDeclaredMethods()));
        hidden.removeIf(FaceTest::isSeen);
        boolean differ = true;
        for (Method method : hidden) {
            if (face.contains(method.getName())) {
                System.out.println("bears a name of the face: " + method);
                differ = false;
            }
        }
        return differ;
    }
}
