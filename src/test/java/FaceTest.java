import java.lang.reflect.Constructor;
import java.lang.reflect.Field;
import java.lang.reflect.Method;
import java.lang.reflect.Modifier;
import java.util.Arrays;
import java.util.Set;
import java.util.TreeSet;

/** The public face is the document's, and nothing else of the class can be seen from outside. */
public final class FaceTest {
    private static final String A = "IllegalArgumentException";
    private static final String S = "IllegalStateException";
    private static final String N = "NoSuchElementException";
    private static final String I = "IndexOutOfBoundsException";
    private static final Checks check = new Checks();

    public static void main(String[] args) {
        constants();
        methods();
        classes();
        check.finish();
    }

    private static void constants() {
        check.same("NONE", LandingSlots.NONE, -1);
        check.same("SWAPPED", LandingSlots.SWAPPED, 1);
        check.same("TRADED", LandingSlots.TRADED, 2);
        check.same("MOVED", LandingSlots.MOVED, 3);
        check.same("EMPTIED", LandingSlots.EMPTIED, 4);
        check.same("LEFT", LandingSlots.LEFT, 5);
        Set<String> seen = new TreeSet<>();
        for (Field field : LandingSlots.class.getDeclaredFields()) {
            if (!Modifier.isPrivate(field.getModifiers())) {
                seen.add(Modifier.toString(field.getModifiers()) + " " + field.getType() + " " + field.getName());
            }
        }
        Set<String> due = new TreeSet<>();
        for (String name : new String[] {"NONE", "SWAPPED", "TRADED", "MOVED", "EMPTIED", "LEFT"}) {
            due.add("public static final int " + name);
        }
        same("fields", seen, due);
    }

    private static void methods() {
        Set<String> due = new TreeSet<>(Arrays.asList(
            line("int", "rate", 2, A, S), line("int", "flight", 3, A, S), line("int", "ration", 0),
            line("int", "slotOf", 1, A), line("int", "ownerOf", 1, N), line("int", "flightIn", 1, N),
            line("boolean", "later", 2, A, S), line("boolean", "cancel", 1, A, S), line("void", "airborne", 1, A, S),
            line("void", "swap", 2, A, S), line("int", "offer", 3, A, N, S), line("boolean", "drop", 1, A),
            line("int", "trade", 0), line("int", "compress", 0), line("int", "gaps", 0), line("int", "delay", 1, A),
            line("int", "owned", 1, A), line("int", "log", 0), line("int", "entry", 2, I, A)));
        Set<String> seen = new TreeSet<>();
        Set<String> publicNames = new TreeSet<>();
        Set<String> privateNames = new TreeSet<>();
        for (Method method : LandingSlots.class.getDeclaredMethods()) {
            if (Modifier.isPrivate(method.getModifiers())) {
                privateNames.add(method.getName());
            } else {
                publicNames.add(method.getName());
                seen.add(lineOf(method));
            }
        }
        same("methods", seen, due);
        privateNames.retainAll(publicNames);
        same("private methods with public names", privateNames, new TreeSet<>());
    }

    private static void classes() {
        check.same("modifiers of the class", LandingSlots.class.getModifiers(), Modifier.PUBLIC | Modifier.FINAL);
        Constructor<?>[] constructors = LandingSlots.class.getDeclaredConstructors();
        check.same("constructors", constructors.length, 1);
        check.same("its modifiers", constructors[0].getModifiers(), Modifier.PUBLIC);
        check.same("its parameters", constructors[0].getParameterCount(), 0);
        for (Class<?> inside : LandingSlots.class.getDeclaredClasses()) {
            check.yes(inside + " is static", Modifier.isStatic(inside.getModifiers()));
            check.no(inside + " is public", Modifier.isPublic(inside.getModifiers()));
        }
    }

    private static String line(String type, String name, int ints, String... thrown) {
        return "public " + type + " " + name + " of " + ints + " ints " + Arrays.toString(thrown);
    }

    private static String lineOf(Method method) {
        int ints = 0;
        for (Class<?> parameter : method.getParameterTypes()) {
            ints += parameter == int.class ? 1 : 1000;
        }
        String[] thrown = new String[method.getExceptionTypes().length];
        for (int i = 0; i < thrown.length; i++) {
            thrown[i] = method.getExceptionTypes()[i].getSimpleName();
        }
        String start = Modifier.toString(method.getModifiers()) + " " + method.getReturnType();
        return start + " " + method.getName() + " of " + ints + " ints " + Arrays.toString(thrown);
    }

    private static void same(String what, Set<String> seen, Set<String> due) {
        if (!seen.equals(due)) {
            System.out.println(what + ": " + seen + ", due are " + due);
        }
        check.yes(what, seen.equals(due));
    }
}
