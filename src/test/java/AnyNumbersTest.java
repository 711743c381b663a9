import java.lang.reflect.InvocationTargetException;
import java.lang.reflect.Method;
import java.lang.reflect.Modifier;
import java.util.LinkedHashMap;
import java.util.List;
import java.util.Map;
import java.util.NoSuchElementException;
import java.util.function.Supplier;

/** Each call of the face with all kinds of numbers, on what is empty and what is full: no other exception comes. */
public final class AnyNumbersTest {
    private static final int[] NUMBERS = {Integer.MIN_VALUE, Integer.MIN_VALUE + 1, -65536, -257, -129, -109, -108, -101,
        -73, -72, -13, -10, -9, -3, -2, -1, 0, 1, 2, 3, 4, 5, 6, 7, 8, 9, 10, 11, 12, 13, 14, 20, 21, 31, 32, 33, 59, 60,
        61, 63, 64, 72, 73, 80, 81, 99, 100, 108, 109, 127, 128, 255, 256, 32767, 32768, 65535, 65536,
        Integer.MAX_VALUE - 1, Integer.MAX_VALUE};
    private static final int[] FEW = {Integer.MIN_VALUE, -1, 0, 3, 12, 13, 60, Integer.MAX_VALUE};
    private static final List<String> MAY_THROW = List.of("sort", "box", "row");
    private static final String FULL = "h9-9" + ";h9-9".repeat(11);

    public static void main(String[] args) throws IllegalAccessException {
        for (Map.Entry<String, Supplier<TypeAtNight>> state : states().entrySet()) {
            Calls.promise(state.getKey());
            for (Method method : TypeAtNight.class.getDeclaredMethods()) {
                if (Modifier.isPublic(method.getModifiers())) {
                    int[] numbers = method.getParameterCount() < 3 ? NUMBERS : FEW;
                    call(method, state.getValue(), new Object[method.getParameterCount()], 0, numbers);
                }
            }
        }
        Calls.close("AnyNumbersTest");
    }

    private static Map<String, Supplier<TypeAtNight>> states() {
        Map<String, Supplier<TypeAtNight>> states = new LinkedHashMap<>();
        states.put("a new object", TypeAtNight::new);
        states.put("80 signs", () -> Calls.put(new TypeAtNight(), "\u00ff".repeat(80)));
        states.put("one SORT, one sign", () -> Calls.put(Calls.with("h9-9", "0/0"), "h"));
        states.put("twelve SORTS, twelve signs", () -> Calls.put(Calls.with(FULL, "b/k*m/w"), "h".repeat(12)));
        states.put("all is full", AnyNumbersTest::full);
        return states;
    }

    /** Twelve SORTS, all STANDING, and as much heard, seen, kept and to be undone as can be. */
    private static TypeAtNight full() {
        TypeAtNight x = Calls.with(FULL, "512*512*512*16/-1");
        for (int n = 0; n < 12; n++) {
            x.heard(4, 9);
            x.saw(9, -9, 0);
            x.moves(n, 0);
        }
        Calls.set(x, "h".repeat(12), 9);
        x.keep(0);
        x.keep(1);
        Calls.put(x, "").law();
        return Calls.put(x, "N9".repeat(40));
    }

    /** Calls with all rows of these numbers, each on an object of its own. */
    private static void call(Method method, Supplier<TypeAtNight> made, Object[] arguments, int from, int[] numbers)
            throws IllegalAccessException {
        if (from < arguments.length) {
            for (int number : numbers) {
                arguments[from] = number;
                call(method, made, arguments, from + 1, numbers);
            }
            return;
        }
        String thrown = "nothing";
        try {
            method.invoke(made.get(), arguments);
        } catch (InvocationTargetException e) {
            boolean may = MAY_THROW.contains(method.getName()) && e.getCause() instanceof NoSuchElementException;
            thrown = may ? thrown : e.getCause().toString();
        }
        Calls.due(method.getName() + List.of(arguments) + " throws", thrown, "nothing");
    }
}
