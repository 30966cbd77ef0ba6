import java.lang.reflect.InvocationTargetException;
import java.lang.reflect.Method;
import java.util.Arrays;

/** Calls told in a text, as "set(0, MAX)", and "tell 'hum 3;'" for a text that is fed and made the tunnel. */
final class Calls {
    private static final String TELL = "tell '";

    private Calls() {
    }

    static long answer(LightMan man, String call) {
        if (call.startsWith(TELL)) {
            return Due.tell(man, plain(call.substring(TELL.length(), call.lastIndexOf('\''))));
        }
        int open = call.indexOf('(');
        Method method = named(call.substring(0, open));
        String told = call.substring(open + 1, call.lastIndexOf(')'));
        String[] words = told.isBlank() ? new String[0] : told.split(",");
        Class<?>[] types = method.getParameterTypes();
        if (types.length != words.length) {
            throw new IllegalArgumentException(call);
        }
        Object[] args = new Object[words.length];
        for (int i = 0; i < args.length; i++) {
            args[i] = argument(words[i].trim(), types[i]);
        }
        return invoked(method, man, args);
    }

    private static Method named(String name) {
        return Arrays.stream(LightMan.class.getMethods()).filter(m -> m.getName().equals(name)).findFirst()
            .orElseThrow(() -> new IllegalArgumentException(name));
    }

    private static Object argument(String word, Class<?> type) {
        if (type == long.class) {
            return Long.decode(word);
        }
        switch (word) {
            case "MIN": return Integer.MIN_VALUE;
            case "MAX": return Integer.MAX_VALUE;
            default: return Integer.decode(word);
        }
    }

    private static long invoked(Method method, LightMan man, Object[] args) {
        try {
            return ((Number) method.invoke(man, args)).longValue();
        } catch (InvocationTargetException e) {
            throw new IllegalStateException(method.getName() + Arrays.toString(args) + " threw", e.getCause());
        } catch (IllegalAccessException e) {
            throw new IllegalStateException(e);
        }
    }

    /** A byte that can't be written stands as ~ and two digits of sixteen. */
    private static String plain(String text) {
        StringBuilder plain = new StringBuilder();
        for (int i = 0; i < text.length(); i++) {
            if (text.charAt(i) == '~') {
                plain.append((char) Integer.parseInt(text.substring(i + 1, i + 3), 16));
                i += 2;
            } else {
                plain.append(text.charAt(i));
            }
        }
        return plain.toString();
    }
}
