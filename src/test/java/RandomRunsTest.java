import java.lang.reflect.InvocationTargetException;
import java.lang.reflect.Method;
import java.lang.reflect.Modifier;
import java.util.ArrayList;
import java.util.Comparator;
import java.util.List;
import java.util.Random;

/** Runs of 512 calls with fixed seeds, each call made to the program and to the Reference. */
public final class RandomRunsTest {
    private static final int RUNS = 1500;
    private static final int CALLS = 512;
    private static final String[] CHANGES = {
        "door", "threshold", "govern", "set", "tellEnding", "key", "knock", "shut", "free", "knock", "knock", "undo"
    };
    private static final int[] ODD = {-1, -2, 3, 4, 5, 6, 7, 8, 11, 13, 26, 60, 99, Integer.MIN_VALUE, Integer.MAX_VALUE};

    private final Random random;
    private final int wildness;
    private int calls = 0;
    private final DoorDialect program = new DoorDialect();
    private final Reference reference = new Reference();
    private final StringBuilder told = new StringBuilder();
    private static List<Method> methods = new ArrayList<>();

    private RandomRunsTest(int seed) {
        random = new Random(seed);
        wildness = new int[] {0, 3, 10, 30}[seed % 4];
    }

    public static void main(String[] args) {
        for (Method method : DoorDialect.class.getDeclaredMethods()) {
            if (Modifier.isPublic(method.getModifiers())) {
                methods.add(method);
            }
        }
        methods.sort(Comparator.comparing(Method::getName));
        Check.due("methods", methods.size(), 39);
        int wrong = 0;
        for (int seed = 0; seed < RUNS && wrong < 3; seed++) {
            wrong += new RandomRunsTest(seed).run() ? 0 : 1;
        }
        Check.due("runs that went wrong", wrong, 0);
        Check.end("RandomRunsTest");
    }

    private boolean run() {
        while (calls < CALLS) {
            // A text is appended by up to sixteen calls.
            if (calls + 17 <= CALLS && random.nextInt(6) == 0) {
                if (!readText(random.nextInt(8) == 0 ? spoiled(text()) : text())) {
                    return false;
                }
            } else if (!call(next())) {
                return false;
            }
        }
        return true;
    }

    private Method next() {
        if (random.nextInt(2) == 0) {
            return named(CHANGES[random.nextInt(CHANGES.length)]);
        }
        Method method = methods.get(random.nextInt(methods.size()));
        // A house that is often cleared or restored never grows full.
        boolean isHarsh = method.getName().equals("clear") || method.getName().equals("restore");
        return isHarsh && random.nextInt(6) > 0 ? named("account") : method;
    }

    private static Method named(String name) {
        for (Method method : methods) {
            if (method.getName().equals(name)) {
                return method;
            }
        }
        throw new AssertionError(name);
    }

    private boolean call(Method method) {
        Class<?>[] types = method.getParameterTypes();
        Object[] arguments = new Object[types.length];
        for (int i = 0; i < types.length; i++) {
            if (types[i] == boolean.class) {
                arguments[i] = random.nextBoolean();
            } else if (types[i] == char.class) {
                arguments[i] = random.nextInt(8) == 0 ? (char) random.nextInt(65536) : (char) (random.nextInt(30) + 95);
            } else {
                arguments[i] = number(method.getName(), i);
            }
        }
        return same(method, arguments);
    }

    private int number(String name, int index) {
        if (random.nextInt(100) < wildness) {
            return ODD[random.nextInt(ODD.length)];
        }
        switch (name + index) {
            case "door0": case "door1": case "key0": case "key1": case "tellEnding0": case "ending0":
            case "syncretic0": case "endings0": case "knock1": case "agrees1":
                return random.nextInt(3);
            case "door3": case "door4": case "way0": case "way1": case "reached0": case "best0": case "thresholdOf0":
            case "govern0":
                return random.nextInt(6);
            case "threshold0": case "govern1": case "tellEnding1": case "ending1": case "knock3": case "agrees3":
                return random.nextInt(4);
            case "tellEnding3":
                return random.nextInt(3) == 0 ? random.nextInt(26) : random.nextInt(6);
            case "set1":
                return random.nextInt(7) - 1;
            case "free0":
                return random.nextInt(5);
            case "doorOf1":
                return random.nextInt(11);
            case "thresholdOf1": case "ranked0":
                return random.nextInt(2);
            case "account0":
                return random.nextInt(13);
            case "character0":
                return random.nextInt(12);
            case "append0":
                return random.nextInt(3) == 0 ? random.nextInt() : packed(text(), random.nextInt(4));
            default:
                return random.nextInt(Math.max(1, reference.account(0)));
        }
    }

    private static int packed(String text, int from) {
        int packed = 0;
        for (int i = from; i < from + 4; i++) {
            packed = packed << 8 | (i < text.length() ? text.charAt(i) : 0);
        }
        return packed;
    }

    private String text() {
        StringBuilder text = new StringBuilder(order());
        while (random.nextInt(4) > 0) {
            String more = ";" + order();
            if (text.length() + more.length() > 60) {
                break;
            }
            text.append(more);
        }
        return text.toString();
    }

    private char of(String signs) {
        return signs.charAt(random.nextInt(signs.length()));
    }

    private int digit(int bound) {
        return random.nextInt(100) < wildness ? random.nextInt(10) : random.nextInt(Math.max(1, bound));
    }

    private String order() {
        int doors = reference.account(0);
        String gender = "" + of("oig");
        String number = "" + of("sd");
        String inCase = "" + of("OSAL");
        switch (random.nextInt(12)) {
            case 0: return "door" + digit(3) + gender + number + digit(6) + digit(6);
            case 1: return "sill" + inCase;
            case 2: return "govern" + digit(reference.account(1)) + inCase;
            case 3: return "set" + digit(doors) + "@" + (random.nextInt(3) == 0 ? "-" : "" + digit(reference.account(1)));
            case 4: return "end" + digit(3) + inCase + number + "=" + of("aeiouz");
            case 5: return "key" + digit(3) + gender;
            case 6: return "shut" + digit(doors);
            case 7: return "free" + digit(reference.account(2)) + ">" + digit(doors);
            default: return "knock" + digit(doors) + ":" + gender + number + inCase;
        }
    }

    private String spoiled(String text) {
        int at = random.nextInt(text.length());
        String sign = random.nextInt(3) == 0 ? "" + (char) (32 + random.nextInt(95)) : "" + of(";@-=:>0oOsSdaLike");
        switch (random.nextInt(4)) {
            case 0: return text.substring(0, at);
            case 1: return text.substring(0, at) + text.substring(at + 1);
            case 2: return text.substring(0, at) + sign + text.substring(at + 1);
            default: return text.substring(0, at) + sign + text.substring(at);
        }
    }

    private boolean readText(String text) {
        for (int i = 0; i < text.length(); i += 4) {
            if (!same(named("append"), packed(text, i))) {
                return false;
            }
        }
        return same(named("read"));
    }

    private boolean same(Method method, Object... arguments) {
        told.append(method.getName()).append(java.util.Arrays.toString(arguments));
        calls++;
        String got = answer(program, method, arguments);
        told.append(" -> ").append(got).append('\n');
        String want;
        try {
            want = answer(reference, Reference.class.getMethod(method.getName(), method.getParameterTypes()), arguments);
        } catch (NoSuchMethodException e) {
            throw new AssertionError(e);
        }
        if (got.equals(want)) {
            return true;
        }
        System.out.println(told + "due is " + want);
        return false;
    }

    private static String answer(Object asked, Method method, Object[] arguments) {
        try {
            return String.valueOf(method.invoke(asked, arguments));
        } catch (InvocationTargetException e) {
            return e.getCause().getClass().getName();
        } catch (IllegalAccessException e) {
            throw new AssertionError(e);
        }
    }
}
