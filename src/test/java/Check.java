import java.util.function.Supplier;

/**
 * What the tests share: answers that are due, exceptions that are due, and texts for the input buffer. Public, since
 * the calls of README.md are loaded by a loader of their own.
 */
public final class Check {
    private static int wrong = 0;
    private static int done = 0;

    private Check() {
    }

    public static void due(String call, Object got, Object want) {
        done++;
        if (!got.equals(want)) {
            wrong++;
            System.out.println(call + " answered " + got + ", due is " + want);
        }
    }

    /** The very class of the exception is asked for: the machine's own subclasses are not the due ones. */
    public static void throwsDue(String call, Class<? extends RuntimeException> want, Supplier<Object> made) {
        done++;
        String got;
        try {
            got = "answered " + made.get();
        } catch (RuntimeException e) {
            if (e.getClass() == want) {
                return;
            }
            got = "threw " + e.getClass().getName();
        }
        wrong++;
        System.out.println(call + " " + got + ", due is a " + want.getName());
    }

    static void refusedDue(String call, DoorDialect x, int reason, int detail, Supplier<Object> made) {
        throwsDue(call, UnsupportedOperationException.class, made);
        due(call + ": reason", x.refusal(false), reason);
        due(call + ": detail", x.refusal(true), detail);
    }

    static void append(DoorDialect x, String text) {
        for (int i = 0; i < text.length(); i += 4) {
            int packed = 0;
            for (int j = i; j < i + 4; j++) {
                packed = packed << 8 | (j < text.length() ? text.charAt(j) : 0);
            }
            x.append(packed);
        }
    }

    static int read(DoorDialect x, String text) {
        append(x, text);
        return x.read();
    }

    public static String lineOf(DoorDialect x, int length) {
        StringBuilder text = new StringBuilder();
        for (int i = 0; i < length; i++) {
            text.append(x.character(i));
        }
        return text.toString();
    }

    /** Everything that can be asked of an object without a change, as one text. */
    static String all(DoorDialect x) {
        StringBuilder text = new StringBuilder();
        for (int what = 0; what <= 12; what++) {
            text.append(x.account(what)).append(' ');
        }
        for (int door = 0; door < x.account(0); door++) {
            for (int what = 0; what <= 10; what++) {
                text.append(x.doorOf(door, what)).append(' ');
            }
            text.append(x.keysFor(door)).append(' ');
        }
        for (int threshold = 0; threshold < x.account(1); threshold++) {
            text.append(x.thresholdOf(threshold, 0)).append(' ');
        }
        for (int place = 0; place < 24; place++) {
            text.append(x.ending(place / 8, place / 2 % 4, place % 2 == 1));
        }
        return text.toString();
    }

    static void end(String test) {
        System.out.println(test + ": " + done + " checks, " + wrong + " wrong");
        if (wrong != 0 || done == 0) {
            System.exit(1);
        }
    }
}
