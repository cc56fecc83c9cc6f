import java.lang.reflect.Constructor;
import java.lang.reflect.Field;
import java.lang.reflect.Method;
import java.lang.reflect.Modifier;
import java.util.Set;
import java.util.TreeSet;

/** The class has the public face of the document, and nothing else that can be seen from outside. */
public final class FaceTest {
    private static final String OUT = "java.lang.IndexOutOfBoundsException";
    private static final String ARG = "java.lang.IllegalArgumentException";
    private static final String STATE = "java.lang.IllegalStateException";

    private FaceTest() {
    }

    private static String method(String type, String nameAndArguments, String... exceptions) {
        String throwing = exceptions.length == 0 ? "" : " throws " + String.join(",", exceptions);
        return "public " + type + " ThimbleSwap." + nameAndArguments + throwing;
    }

    private static Set<String> dueMethods() {
        return new TreeSet<>(Set.of(
            method("int", "join()", STATE),
            method("int", "find(int,int,int,int,int)", OUT, ARG, STATE),
            method("int", "like(int,int,int)", OUT, ARG),
            method("int", "collector(int,int)", OUT),
            method("int", "grudge(int,int)", OUT),
            method("int", "thimble(int,int)", OUT),
            method("int", "gains(int,int)", OUT, ARG),
            method("int", "swap(int,int)", OUT, ARG, STATE),
            method("int", "best(int,int)", OUT, ARG),
            method("int", "ring(int,int,int)", OUT, ARG),
            method("int", "fair(int)", ARG),
            method("int", "lend(int,int)", OUT, ARG, STATE),
            method("int", "shows(int)", OUT),
            method("int", "lacks(int)", OUT),
            method("int", "finest(int)", OUT),
            method("int", "pass(int)", ARG),
            method("int", "count(int)", OUT),
            method("double", "mean()"),
            method("long", "digest()")));
    }

    public static void main(String[] args) {
        Class<?> c = ThimbleSwap.class;
        Set<String> seen = new TreeSet<>();
        Set<String> names = new TreeSet<>();
        for (Method m : c.getDeclaredMethods()) {
            if (!Modifier.isPrivate(m.getModifiers())) {
                seen.add(m.toGenericString());
                names.add(m.getName());
            }
        }
        CheckHelper.countCheck();
        if (!seen.equals(dueMethods())) {
            CheckHelper.tellWrong("methods: " + seen + ", due are " + dueMethods());
        }
        for (Method m : c.getDeclaredMethods()) {
            CheckHelper.countCheck();
            if (Modifier.isPrivate(m.getModifiers()) && names.contains(m.getName())) {
                CheckHelper.tellWrong("a private method is named " + m.getName());
            }
        }
        for (Field f : c.getDeclaredFields()) {
            CheckHelper.countCheck();
            boolean isConstant = Modifier.isFinal(f.getModifiers()) && f.getType().isPrimitive();
            if (!Modifier.isPrivate(f.getModifiers()) || (Modifier.isStatic(f.getModifiers()) && !isConstant)) {
                CheckHelper.tellWrong("field " + f);
            }
        }
        Constructor<?>[] constructors = c.getDeclaredConstructors();
        CheckHelper.due("constructors", 1, () -> constructors.length);
        CheckHelper.due("the constructor's arguments", 0, () -> constructors[0].getParameterCount());
        CheckHelper.due("class is public and final", Modifier.PUBLIC | Modifier.FINAL, c::getModifiers);
        CheckHelper.end();
    }
}
