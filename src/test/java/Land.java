import java.lang.reflect.InvocationTargetException;
import java.lang.reflect.Method;
import java.lang.reflect.Modifier;
import java.nio.charset.StandardCharsets;
import java.util.Arrays;
import java.util.HashMap;
import java.util.Map;

/** A DustLand that is called by names, and counts its calls: the document promises nothing behind the 512th. */
final class Land {
    static final int MOST_CALLS = 512;

    private static final Map<String, Method> METHODS = new HashMap<>();

    static {
        for (Method m : DustLand.class.getDeclaredMethods()) {
            if (m.getModifiers() == Modifier.PUBLIC) METHODS.put(m.getName() + m.getParameterCount(), m);
        }
    }

    private final DustLand x = new DustLand();
    int calls = 0;

    long call(String name, int... args) {
        Method method = METHODS.get(name + args.length);
        if (method == null) throw new IllegalArgumentException("the face has no " + name + " of " + args.length);
        calls++;
        try {
            return ((Number) method.invoke(x, Arrays.stream(args).boxed().toArray())).longValue();
        } catch (InvocationTargetException e) {
            throw new AssertionError(name + Arrays.toString(args) + " throws", e.getCause());
        } catch (IllegalAccessException e) {
            throw new AssertionError(e);
        }
    }

    int ask(String name, int... args) {
        return (int) call(name, args);
    }

    /** By fours, as far as that goes, so that few calls are used up. */
    long feed(String text) {
        byte[] bytes = text.getBytes(StandardCharsets.ISO_8859_1);
        long has = call("count", 5);
        for (int from = 0; from < bytes.length; from += 4) {
            int n = Math.min(4, bytes.length - from);
            int word = 0;
            for (int i = 0; i < n; i++) word = word << 8 | bytes[from + i] & 255;
            has = call("feed", word, n);
        }
        return has;
    }

    long text(String text) {
        call("wipe");
        feed(text);
        return call("text");
    }
}
