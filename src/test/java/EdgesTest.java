import java.lang.reflect.InvocationTargetException;
import java.lang.reflect.Method;
import java.util.ArrayList;
import java.util.Arrays;
import java.util.Comparator;
import java.util.List;

/**
 * Every call with all numbers that are just inside or outside of some limit, and the least and greatest of all, in
 * several states: none may throw, and each answer is held against the oracle's. An object has at most 512 calls.
 */
public final class EdgesTest {
    private static final int LIMIT = 512;
    private static final int LEAST = Integer.MIN_VALUE, MOST = Integer.MAX_VALUE;
    private static final int[] MANY = {LEAST, LEAST + 1, -20, -5, -4, -3, -2, -1, 0, 1, 2, 3, 4, 5, 6, 7, 8, 9, 10, 11, 12, 13,
        19, 20, 21, 23, 24, 25, 32, 33, 34, 39, 40, 41, 59, 60, 61, 312, 319, 320, 321, 1000, MOST - 1, MOST};
    private static final int[] SOME = {LEAST, -5, -4, -1, 0, 1, 2, 3, 5, 6, 7, 9, 10, 12, 13, 34, 40, 41, 60, 61, MOST};
    private static final int[] FEW = {LEAST, -1, 0, 1, 2, 3, 4, 19, 20, 21, 39, 40, MOST};

    private static final String HOUSE = "rooms 6;door 0 1;door 1 2;door 2 3 barred;door 3 4;door 4 5;door 0 0;door 5 0;swap 0 3;"
            + "turn 1 2;bar 2;period 3;in 1;beast 4 turns;string 3;";

    private final Object[][] start;
    private ThreadMoved x;
    private Oracle o;
    private int calls;

    private EdgesTest(Object[]... start) {
        this.start = start;
    }

    public static void main(String[] args) throws ReflectiveOperationException {
        Method[] methods = Arrays.stream(ThreadMoved.class.getDeclaredMethods())
                .filter(m -> java.lang.reflect.Modifier.isPublic(m.getModifiers()))
                .sorted(Comparator.comparing(Method::getName)).toArray(Method[]::new);
        Check.due("methods", methods.length, 36);
        for (EdgesTest state : states()) {
            for (Method m : methods) {
                state.begin();
                state.cross(m, new Object[m.getParameterCount()], 0);
            }
        }
        Check.finish();
    }

    private static Object[] call(Object... nameAndArguments) {
        return nameAndArguments;
    }

    private static List<EdgesTest> states() {
        List<EdgesTest> all = new ArrayList<>();
        all.add(new EdgesTest());
        all.add(new EdgesTest(call("tell", HOUSE), call("go", 0), call("see", 1, 0, 1), call("hear", 2, 5, false), call("keep", 0),
                call("sheet", 0, 0, 40), call("sheet", 1, 1, 3), call("sheet", 2, 2, 0), call("lay", 0, 0, 10),
                call("lay", 0, 39, 10), call("lay", 1, 2, 10), call("feed", -1L), call("go", 10)));
        all.add(new EdgesTest(call("tell", "door 0 1;beast 1 hungry;"), call("sheet", 0, 0, 2), call("keep", 1), call("go", 0)));
        List<Object[]> late = new ArrayList<>();
        late.add(call("tell", "rooms 7;" + "door 0 6;".repeat(10) + "turn 9 1;bar 0;"));
        late.add(call("sheet", 0, 2, 20));
        for (int i = 0; i < 20; i++) {
            late.add(call("lay", 0, i, 10));
        }
        for (int i = 0; i < 50; i++) {
            late.add(call("read", 0, 2, 0, i == 0 ? 19 : 20));
        }
        all.add(new EdgesTest(late.toArray(Object[][]::new)));
        return all;
    }

    private void begin() throws ReflectiveOperationException {
        x = new ThreadMoved();
        o = new Oracle();
        calls = 0;
        for (Object[] c : start) {
            if (c[0].equals("tell")) {
                byte[] bytes = ((String) c[1]).getBytes();
                for (int i = 0; i < bytes.length; i += 8) {
                    same("feed", Check.eight(bytes, i));
                }
                same("end", bytes.length);
                same("text");
            } else {
                same((String) c[0], Arrays.copyOfRange(c, 1, c.length));
            }
        }
    }

    /** All rows of arguments, one number behind another. */
    private void cross(Method m, Object[] arguments, int at) throws ReflectiveOperationException {
        if (at == arguments.length) {
            if (calls == LIMIT) {
                begin();
            }
            same(m.getName(), arguments);
            return;
        }
        Class<?> type = m.getParameterTypes()[at];
        if (type == boolean.class) {
            for (int i = 0; i < 2; i++) {
                arguments[at] = i == 1;
                cross(m, arguments, at + 1);
            }
            return;
        }
        int[] edges = arguments.length == 4 ? FEW : arguments.length == 3 ? SOME : MANY;
        for (int v : edges) {
            arguments[at] = type == long.class ? (Object) (v * 0x100000001L) : (Object) v;
            cross(m, arguments, at + 1);
        }
    }

    private void same(String name, Object... arguments) throws ReflectiveOperationException {
        calls++;
        String call = name + Arrays.toString(arguments);
        try {
            Check.due(call, answer(ThreadMoved.class, x, name, arguments), answer(Oracle.class, o, name, arguments));
        } catch (InvocationTargetException e) {
            Check.dueTrue(call + " threw " + e.getCause(), false);
        }
    }

    private static int answer(Class<?> c, Object object, String name, Object[] arguments) throws ReflectiveOperationException {
        for (Method m : c.getDeclaredMethods()) {
            if (m.getName().equals(name) && m.getParameterCount() == arguments.length && m.getReturnType() == int.class
                    && !java.lang.reflect.Modifier.isPrivate(m.getModifiers())) {
                return (Integer) m.invoke(object, arguments);
            }
        }
        throw new NoSuchMethodException(name);
    }
}
