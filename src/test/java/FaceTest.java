import java.lang.reflect.Constructor;
import java.lang.reflect.Field;
import java.lang.reflect.Method;
import java.lang.reflect.Modifier;
import java.util.Arrays;
import java.util.Set;
import java.util.TreeSet;

/** The public face, exactly as the document has it, and rules 1 and 5 of LANGUAGE.md. */
public final class FaceTest {
    private static final String IAE = "IllegalArgumentException";
    private static final String ISE = "IllegalStateException";
    private static final String IOOBE = "IndexOutOfBoundsException";

    private static final String[] FACE = {
        "feed 5", "work 1 " + IAE + " " + ISE, "fault 0", "told 2 " + IOOBE + " " + IAE,
        "set 2 " + IAE, "noise 1", "draw 0", "hours 2 " + IOOBE + " " + IAE, "end 1 " + IAE,
        "begins 2 " + IOOBE + " " + IAE, "best 0", "order 1", "move 2 " + IOOBE + " " + IAE,
        "part 0", "on 0", "off 1 " + IAE, "last 0", "train 1 " + IAE, "ends 0", "leave 0", "out 1",
        "count 1"};

    private static final Set<Class<?>> CONSTANTS = Set.of(int.class, long.class, boolean.class, char.class,
        String.class);

    public static void main(String[] args) throws Exception {
        int kind = BridgeNight.class.getModifiers();
        Check.report("public final", Modifier.toString(kind), "public final");
        methods();
        fields();
        Constructor<?>[] made = BridgeNight.class.getDeclaredConstructors();
        Check.report("constructors", Arrays.toString(made), "[public BridgeNight()]");
        classesInside();
        Check.finish();
    }

    private static void methods() {
        Set<String> due = new TreeSet<>(Arrays.asList(FACE));
        Set<String> found = new TreeSet<>();
        for (Method m : BridgeNight.class.getDeclaredMethods()) {
            if (!Modifier.isPrivate(m.getModifiers())) {
                found.add(told(m));
            }
        }
        Check.report("methods", found.toString(), due.toString());
    }

    private static String told(Method m) {
        StringBuilder s = new StringBuilder(m.getName() + " " + m.getParameterCount());
        for (Class<?> thrown : m.getExceptionTypes()) {
            s.append(" ").append(thrown.getSimpleName());
        }
        boolean ints = m.getReturnType() == int.class && Modifier.toString(m.getModifiers()).equals("public");
        for (Class<?> p : m.getParameterTypes()) {
            ints = ints && p == int.class;
        }
        return ints ? s.toString() : "not an int of ints: " + s;
    }

    private static void fields() throws IllegalAccessException {
        for (Field f : BridgeNight.class.getDeclaredFields()) {
            String kind = Modifier.toString(f.getModifiers());
            if (f.getName().equals("NONE")) {
                Check.report("NONE", kind + " " + f.getType() + " " + f.getInt(null), "public static final int -1");
            } else {
                Check.report("field " + f.getName(), kind.split(" ")[0], "private");
            }
        }
    }

    /** Rule 5: constants of few types, and no other static state; rule 1: no private method with a public name. */
    private static void staticsAndNames(Class<?> c) {
        for (Field f : c.getDeclaredFields()) {
            if (Modifier.isStatic(f.getModifiers())) {
                Check.report(c.getSimpleName() + "." + f.getName() + " is a constant",
                    Modifier.isFinal(f.getModifiers()) + " " + CONSTANTS.contains(f.getType()), "true true");
            }
        }
        for (Method m : c.getDeclaredMethods()) {
            if (Modifier.isPrivate(m.getModifiers())) {
                Check.report("a private method " + c.getSimpleName() + "." + m.getName() + " with a public name",
                    Boolean.toString(publicNames().contains(m.getName())), "false");
            }
        }
    }

    private static Set<String> publicNames() {
        Set<String> names = new TreeSet<>();
        for (String line : FACE) {
            names.add(line.substring(0, line.indexOf(' ')));
        }
        return names;
    }

    private static void classesInside() {
        staticsAndNames(BridgeNight.class);
        for (Class<?> c : BridgeNight.class.getDeclaredClasses()) {
            staticsAndNames(c);
            int kind = c.getModifiers();
            Check.report("class " + c.getSimpleName() + " is static",
                Boolean.toString(Modifier.isStatic(kind)), "true");
            Check.report("class " + c.getSimpleName() + " is public or protected",
                Boolean.toString(Modifier.isPublic(kind) || Modifier.isProtected(kind)), "false");
        }
    }
}
