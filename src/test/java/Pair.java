import java.lang.reflect.Method;
import java.util.HashMap;
import java.util.Map;

/**
 * An object of the class and the document told anew, asked alike: each answer
 * of the one is due to be the answer of the other. After 512 calls the
 * document promises nothing more, and no more is asked.
 */
final class Pair {
    static final int MOST_CALLS = 512;

    private static final Map<String, Method> OF_CLASS = methods(BumpStreets.class);
    private static final Map<String, Method> OF_TOLD = methods(Told.class);

    private final String name;
    private final BumpStreets x = new BumpStreets();
    private final Told told = new Told();
    private int calls = 0;

    Pair(String name) {
        this.name = name;
    }

    int callsLeft() {
        return MOST_CALLS - calls;
    }

    /** How many numbers a call takes. */
    static int numbersOf(String call) {
        return OF_CLASS.get(call).getParameterCount();
    }

    /** What is due; 0 if the object is used up. */
    long ask(String call, long... numbers) {
        if (callsLeft() == 0) {
            return 0;
        }
        calls++;
        long due = answer(OF_TOLD.get(call), told, numbers);
        Due.is(name + ", call " + calls + ": " + told(call, numbers), answer(OF_CLASS.get(call), x, numbers), due);
        return due;
    }

    /** Four bytes at a time, as far as they go. */
    long tell(String text) {
        for (int i = 0; i < text.length(); i += 4) {
            int n = Math.min(4, text.length() - i);
            int bytes = 0;
            for (int j = 0; j < n; j++) {
                bytes = bytes << 8 | text.charAt(i + j);
            }
            ask("feed", bytes, n);
        }
        return ask("town");
    }

    private static long answer(Method method, Object asked, long[] numbers) {
        Class<?>[] types = method.getParameterTypes();
        Object[] all = new Object[types.length];
        for (int i = 0; i < all.length; i++) {
            if (types[i] == int.class) {
                all[i] = (int) numbers[i];
            } else {
                all[i] = numbers[i];
            }
        }
        try {
            return ((Number) method.invoke(asked, all)).longValue();
        } catch (ReflectiveOperationException e) {
            throw new IllegalStateException(method.getName(), e);
        }
    }

    private static String told(String call, long[] numbers) {
        StringBuilder all = new StringBuilder(call).append('(');
        for (int i = 0; i < numbers.length; i++) {
            all.append(i == 0 ? "" : ", ").append(numbers[i]);
        }
        return all.append(')').toString();
    }

    private static Map<String, Method> methods(Class<?> of) {
        Map<String, Method> all = new HashMap<>();
        for (Method m : of.getDeclaredMethods()) {
            if (!java.lang.reflect.Modifier.isPrivate(m.getModifiers())) {
                all.put(m.getName(), m);
            }
        }
        return all;
    }
}
