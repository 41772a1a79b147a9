import java.lang.reflect.Constructor;
import java.lang.reflect.Field;
import java.lang.reflect.Member;
import java.lang.reflect.Method;
import java.lang.reflect.Modifier;
import java.util.Arrays;
import java.util.List;
import java.util.Set;
import java.util.TreeSet;

/** The document's face: its constants, constructor and methods, and nothing else to be seen. */
public final class FaceTest {
    public static void main(String[] args) throws IllegalAccessException {
        classes();
        constants();
        constructors();
        methods();
        Runs.finish();
    }

    private static void classes() {
        int modifiers = SandKernel.class.getModifiers();
        Runs.isTrue("the class is public and final", Modifier.isPublic(modifiers) && Modifier.isFinal(modifiers));
        for (Class<?> inside : SandKernel.class.getDeclaredClasses()) {
            int m = inside.getModifiers();
            Runs.isTrue(inside + " is static", Modifier.isStatic(m));
            Runs.isTrue(inside + " is hidden", !Modifier.isPublic(m) && !Modifier.isProtected(m));
        }
    }

    private static void constants() throws IllegalAccessException {
        List<String> names = Runs.CONSTANTS;
        Set<String> seen = new TreeSet<>();
        for (Field field : SandKernel.class.getDeclaredFields()) {
            if (!isPrivate(field)) {
                seen.add(field.getName());
                int m = field.getModifiers();
                Runs.isTrue(field + " is a constant", Modifier.isPublic(m) && Modifier.isStatic(m)
                        && Modifier.isFinal(m) && field.getType() == int.class);
                Runs.due("Terms: " + field.getName(), field.getInt(null), -1 - names.indexOf(field.getName()));
            }
        }
        Runs.isTrue("the constants are " + seen, seen.equals(new TreeSet<>(names)));
    }

    private static void constructors() {
        Constructor<?>[] all = SandKernel.class.getDeclaredConstructors();
        Runs.due("constructors", all.length, 1);
        Runs.isTrue("the constructor is public", Modifier.isPublic(all[0].getModifiers()));
        Runs.due("numbers of the constructor", all[0].getParameterCount(), 0);
    }

    private static void methods() {
        Set<String> seen = new TreeSet<>();
        for (Method method : SandKernel.class.getDeclaredMethods()) {
            boolean named = Arrays.asList(Kernel.CALLS).contains(method.getName());
            if (isPrivate(method)) {
                Runs.isTrue(method + " has a name of its own", !named);
            } else {
                seen.add(method.getName());
                int m = method.getModifiers();
                Runs.isTrue(method + " is public and answers an int", named && Modifier.isPublic(m)
                        && !Modifier.isStatic(m) && method.getReturnType() == int.class);
                int at = Arrays.asList(Kernel.CALLS).indexOf(method.getName());
                Runs.due("numbers of " + method.getName(), method.getParameterCount(), named ? Kernel.NUMBERS[at] : -1);
                for (Class<?> type : method.getParameterTypes()) {
                    Runs.isTrue(method + " takes ints", type == int.class);
                }
            }
        }
        Runs.isTrue("the methods are " + seen, seen.equals(new TreeSet<>(Arrays.asList(Kernel.CALLS))));
    }

    private static boolean isPrivate(Member member) {
        return Modifier.isPrivate(member.getModifiers());
    }
}
