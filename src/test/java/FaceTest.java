import java.lang.reflect.Constructor;
import java.lang.reflect.Field;
import java.lang.reflect.Method;
import java.lang.reflect.Modifier;
import java.util.ArrayList;
import java.util.Arrays;
import java.util.List;
import java.util.TreeSet;

/** The public face, the constants, and promise 1. */
public final class FaceTest {
    private static final String[] METHODS = {
        "int type(long, int) throws IllegalArgumentException, UnsupportedOperationException",
        "void keep(int) throws IllegalArgumentException",
        "int typed(int) throws IndexOutOfBoundsException",
        "void meter(int, int, int, int, int, int) throws IndexOutOfBoundsException, IllegalArgumentException",
        "boolean remove(int) throws IndexOutOfBoundsException",
        "int page(int, int) throws IndexOutOfBoundsException, UnsupportedOperationException",
        "int state(int, int) throws IndexOutOfBoundsException",
        "int send()",
        "int search()",
        "int found(int, int) throws IndexOutOfBoundsException",
        "int readOut(int) throws IndexOutOfBoundsException",
        "int decode()",
        "int place()",
        "int clear()",
        "long record(int, int) throws IndexOutOfBoundsException",
        "int text(int, int) throws IndexOutOfBoundsException",
        "int count(int) throws IndexOutOfBoundsException"};

    public static void main(String[] args) {
        Check.due("public and final", Check.bit(Modifier.isFinal(MeterBus.class.getModifiers())
                && Modifier.isPublic(MeterBus.class.getModifiers())), 1);
        Check.due("NONE", MeterBus.NONE, -1);
        Check.due("COLLISION", MeterBus.COLLISION, -2);
        Check.due("the methods", methods().toString(), new TreeSet<>(Arrays.asList(METHODS)).toString());
        Check.due("the fields", fields().toString(), "[public static final int COLLISION, public static final int NONE]");
        Constructor<?>[] constructors = MeterBus.class.getDeclaredConstructors();
        Check.due("constructors", constructors.length, 1);
        Check.due("it", constructors[0].toString(), "public MeterBus()");
        newObject();
        Check.end();
    }

    private static String names(Class<?>... types) {
        List<String> names = new ArrayList<>();
        for (Class<?> type : types) {
            names.add(type.getSimpleName());
        }
        return String.join(", ", names);
    }

    /** All that are not private; each of them has to be public, and an object's own. */
    private static TreeSet<String> methods() {
        TreeSet<String> names = new TreeSet<>();
        for (Method m : MeterBus.class.getDeclaredMethods()) {
            if (!Modifier.isPrivate(m.getModifiers()) && !m.isSynthetic()) {
                String thrown = names(m.getExceptionTypes());
                names.add(m.getReturnType() + " " + m.getName() + "(" + names(m.getParameterTypes()) + ")"
                        + (thrown.isEmpty() ? "" : " throws " + thrown));
                Check.due(m.getName(), Modifier.toString(m.getModifiers()), "public");
            }
        }
        return names;
    }

    private static TreeSet<String> fields() {
        TreeSet<String> names = new TreeSet<>();
        for (Field f : MeterBus.class.getDeclaredFields()) {
            if (!Modifier.isPrivate(f.getModifiers()) && !f.isSynthetic()) {
                names.add(Modifier.toString(f.getModifiers()) + " " + f.getType() + " " + f.getName());
            }
        }
        return names;
    }

    private static void newObject() {
        MeterBus x = new MeterBus();
        for (int what = 0; what < 6; what++) {
            Check.due("count(" + what + ") of a new object", x.count(what), 0);
        }
        for (int k = 0; k < 12; k++) {
            for (int what = 0; what < 7; what++) {
                Check.due("state of a new object", x.state(k, what), 0);
            }
        }
        Check.due("place() of a new object", x.place(), MeterBus.NONE);
        Check.due("clear() of a new object", x.clear(), 0);
        Check.dueThrow("typed(0)", x, Check.INDEX, () -> x.typed(0));
        Check.dueThrow("found(0, 0)", x, Check.INDEX, () -> x.found(0, 0));
        Check.dueThrow("record(0, 0)", x, Check.INDEX, () -> x.record(0, 0));
        Check.due("search() of a new object", x.search(), 0);
        Check.due("frames behind it", x.count(4), 1);
        MeterBus y = new MeterBus();
        y.type(1, 1);
        y.meter(0, 1, 1, 1, 1, 1);
        Check.due("objects share nothing: bytes", x.count(1), 0);
        Check.due("objects share nothing: meters", x.count(0), 0);
    }
}
