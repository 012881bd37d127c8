import java.lang.reflect.Constructor;
import java.lang.reflect.Field;
import java.lang.reflect.Method;
import java.lang.reflect.Modifier;
import java.util.Arrays;
import java.util.Set;
import java.util.TreeSet;

/** The class has the public face of the document, and no other member that can be seen from outside. */
public final class FaceTest {
    private static final Set<String> DUE = new TreeSet<>(Arrays.asList(
            "int NONE", "int UNKNOWN", "int OUTSIDE", "int STATE", "int ROOM",
            "BeltSteps[]",
            "int belt[long, long]", "int join[int, int]", "int feed[int, long, long]", "int step[long]",
            "int edge[int, int]", "int stop[int, boolean, long]", "int slip[int, long]", "long place[int, long]",
            "int gap[int, int]", "int count[int]", "int gear[int, long]"));

    private static String names(Class<?>[] types) {
        String[] names = new String[types.length];
        for (int i = 0; i < types.length; i++) names[i] = types[i].getSimpleName();
        return Arrays.toString(names);
    }

    private static Set<String> seenFromOutside() {
        Set<String> seen = new TreeSet<>();
        for (Field f : BeltSteps.class.getDeclaredFields()) {
            if (!Modifier.isPrivate(f.getModifiers())) seen.add(f.getType().getSimpleName() + " " + f.getName());
        }
        for (Constructor<?> c : BeltSteps.class.getDeclaredConstructors()) {
            if (!Modifier.isPrivate(c.getModifiers())) seen.add("BeltSteps" + names(c.getParameterTypes()));
        }
        for (Method m : BeltSteps.class.getDeclaredMethods()) {
            if (Modifier.isPrivate(m.getModifiers())) continue;
            seen.add(m.getReturnType().getSimpleName() + " " + m.getName() + names(m.getParameterTypes()));
        }
        return seen;
    }

    public static void main(String[] args) {
        Set<String> seen = seenFromOutside();
        int modifiers = BeltSteps.class.getModifiers();
        boolean right = seen.equals(DUE) && Modifier.isPublic(modifiers) && Modifier.isFinal(modifiers);
        System.out.println(right ? "the face is as due" : "the face is " + seen + ", due is " + DUE);
        if (!right) System.exit(1);
    }
}
