import java.lang.reflect.InvocationTargetException;
import java.lang.reflect.Method;
import java.lang.reflect.Modifier;
import java.util.Map;
import java.util.TreeMap;

/** An object that is asked by the names of its calls, for at most 512 of them, as the document has it. */
final class Asked {
    static final int MOST_CALLS = 512;
    private static final Map<String, Method> METHODS = methods();

    private final DoorDialect x = new DoorDialect();
    private int calls = 0;

    private static Map<String, Method> methods() {
        Map<String, Method> methods = new TreeMap<>();
        for (Method method : DoorDialect.class.getDeclaredMethods()) {
            if (Modifier.isPublic(method.getModifiers())) {
                methods.put(method.getName(), method);
            }
        }
        return methods;
    }

    static Class<?>[] parametersOf(String name) {
        Method method = METHODS.get(name);
        if (method == null) {
            throw new AssertionError("there is no call " + name);
        }
        return method.getParameterTypes();
    }

    int calls() {
        return calls;
    }

    /** The answer as a text, or "!" and the very class of what was thrown. */
    String ask(String name, Object... arguments) {
        calls++;
        if (calls > MOST_CALLS) {
            throw new AssertionError("a test asks an object more than " + MOST_CALLS + " times");
        }
        try {
            return String.valueOf(METHODS.get(name).invoke(x, arguments));
        } catch (InvocationTargetException e) {
            return "!" + e.getCause().getClass().getName().replaceAll(".*[.]", "");
        } catch (IllegalAccessException e) {
            throw new AssertionError(e);
        }
    }

    private int number(String name, Object... arguments) {
        return Integer.parseInt(ask(name, arguments));
    }

    String appendAll(String text) {
        String answer = ask("append", 0);
        for (int i = 0; i < text.length(); i += 4) {
            answer = ask("append", packed(text, i));
        }
        return answer;
    }

    static int packed(String text, int from) {
        int packed = 0;
        for (int i = from; i < from + 4; i++) {
            packed = packed << 8 | (i < text.length() ? text.charAt(i) : 0);
        }
        return packed;
    }

    String line() {
        StringBuilder line = new StringBuilder();
        for (int i = 0; i < 40; i++) {
            String sign = ask("character", i);
            if (sign.length() > 1) {
                return line.toString();
            }
            line.append(sign);
        }
        return line + "..";
    }

    /** All that can be asked without making the object another one, part by part. */
    Map<String, String> parts() {
        Map<String, String> parts = new TreeMap<>();
        for (int what = 0; what <= 12; what++) {
            parts.put(what == 11 ? "buffer" : what == 12 ? "changes" : "account " + what, ask("account", what));
        }
        for (int door = 0; door < number("account", 0); door++) {
            StringBuilder told = new StringBuilder();
            for (int what = 0; what <= 10; what++) {
                told.append(ask("doorOf", door, what)).append(' ');
            }
            parts.put("door " + door, told + ask("keysFor", door));
        }
        for (int threshold = 0; threshold < number("account", 1); threshold++) {
            parts.put("threshold " + threshold, ask("thresholdOf", threshold, 0) + " " + ask("thresholdOf", threshold, 1));
        }
        StringBuilder endings = new StringBuilder();
        for (int place = 0; place < 24; place++) {
            endings.append(ask("ending", place / 8, place / 2 % 4, place % 2 == 1));
        }
        parts.put("endings", endings.toString());
        parts.put("line", line());
        parts.put("refusal", ask("refusal", false) + " " + ask("refusal", true));
        parts.put("errorPosition", ask("errorPosition"));
        parts.put("refusedItem", ask("refusedItem"));
        return parts;
    }

    /** The number that each key has, told by the refusals of the keys that are there already. */
    Map<String, String> keys() {
        Map<String, String> keys = new TreeMap<>();
        for (int same = 0; same < 9; same++) {
            String answer = ask("key", same / 3, same % 3);
            keys.put("key " + same, answer + (answer.startsWith("!") ? " " + ask("refusal", true) : ""));
        }
        return keys;
    }
}
