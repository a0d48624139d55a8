import java.lang.reflect.InvocationTargetException;
import java.lang.reflect.Method;
import java.nio.charset.StandardCharsets;
import java.util.HashMap;
import java.util.Map;

/** What the tests share: a DarkGate called by rows of text, and the count of wrong answers. */
final class Check {
    static final Map<String, Method> CALLS = calls();
    private static int asked = 0;
    private static int wrong = 0;

    DarkGate gate = new DarkGate();

    private static Map<String, Method> calls() {
        Map<String, Method> found = new HashMap<>();
        for (Method method : DarkGate.class.getDeclaredMethods()) {
            if (java.lang.reflect.Modifier.isPublic(method.getModifiers())) {
                found.put(method.getName(), method);
            }
        }
        return found;
    }

    static long call(DarkGate gate, String name, long... numbers) {
        Method method = CALLS.get(name);
        if (method == null) {
            throw new IllegalArgumentException("no call " + name);
        }
        Class<?>[] kinds = method.getParameterTypes();
        if (kinds.length != numbers.length) {
            throw new IllegalArgumentException(name + " takes " + kinds.length + " numbers");
        }
        Object[] given = new Object[kinds.length];
        for (int i = 0; i < kinds.length; i++) {
            if (kinds[i] == long.class) {
                given[i] = numbers[i];
            } else {
                given[i] = Math.toIntExact(numbers[i]);
            }
        }
        try {
            return ((Number) method.invoke(gate, given)).longValue();
        } catch (InvocationTargetException | IllegalAccessException e) {
            throw new IllegalStateException(name + " failed", e);
        }
    }

    /** A row such as "comes(2) = 14". */
    void due(String row) {
        int open = row.indexOf('(');
        int close = row.indexOf(')');
        int equal = row.indexOf('=');
        String inside = row.substring(open + 1, close).trim();
        String[] parts = inside.isEmpty() ? new String[0] : inside.split(",");
        long[] numbers = new long[parts.length];
        for (int i = 0; i < parts.length; i++) {
            numbers[i] = Long.parseLong(parts[i].trim());
        }
        long want = Long.parseLong(row.substring(equal + 1).trim());
        same(row, call(gate, row.substring(0, open).trim(), numbers), want);
    }

    void due(String... rows) {
        for (String row : rows) {
            due(row);
        }
    }

    static void same(String what, long got, long want) {
        asked++;
        if (got != want) {
            wrong++;
            System.out.println(what + ": answered " + got + ", due is " + want);
        }
    }

    /** Puts a text behind the TAPE. */
    void tape(String text) {
        tape(gate, text);
    }

    static void tape(DarkGate gate, String text) {
        byte[] bytes = text.getBytes(StandardCharsets.ISO_8859_1);
        int before = gate.count(7);
        for (int at = 0; at < bytes.length; at += 20) {
            int[] numbers = fiveNumbers(bytes, at);
            gate.feed(numbers[0], numbers[1], numbers[2], numbers[3], numbers[4]);
        }
        gate.end(before + bytes.length);
    }

    static int[] fiveNumbers(byte[] bytes, int at) {
        int[] numbers = new int[5];
        for (int i = 0; i < 20; i++) {
            int sign = at + i < bytes.length ? bytes[at + i] & 255 : 32;
            numbers[i / 4] = numbers[i / 4] << 8 | sign;
        }
        return numbers;
    }

    /** A new object with a TOWN. */
    static Check with(String text) {
        Check check = new Check();
        check.tape(text);
        int lines = check.gate.town();
        if (lines < 1) {
            same("town of " + text, lines, 1);
        }
        return check;
    }

    /** A row of numbers in a SLOT, 8 bytes each. */
    void slot(int slot, long... numbers) {
        same("row", gate.row(slot, 3, numbers.length), 0);
        for (int i = 0; i < numbers.length; i++) {
            same("write", gate.write(slot, i, numbers[i]), 0);
        }
    }

    static void close(String name) {
        System.out.println(name + ": " + asked + " answers, " + wrong + " not as due");
        if (wrong != 0 || asked == 0) {
            System.exit(1);
        }
    }
}
