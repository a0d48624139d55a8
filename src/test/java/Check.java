import java.lang.reflect.InvocationTargetException;
import java.lang.reflect.Method;
import java.nio.charset.StandardCharsets;
import java.util.HashMap;
import java.util.Map;

/**
 * What the tests share: a DarkGate called by rows of text, and the count of wrong answers. The Model
 * gets the same calls, so that rows worked out by hand hold it to the document, too.
 */
final class Check {
    static final Map<String, Method> CALLS = calls();
    private static final int MOST_CALLS = 512;
    private static int asked = 0;
    private static int wrong = 0;

    private final String sentence;
    private DarkGate gate = new DarkGate();
    private Model model = new Model();
    private int called = 0;

    /** A new object, to be asked about what a sentence of the document says. */
    Check(String sentence) {
        this.sentence = sentence;
    }

    private static Map<String, Method> calls() {
        Map<String, Method> found = new HashMap<>();
        for (Method method : DarkGate.class.getDeclaredMethods()) {
            if (java.lang.reflect.Modifier.isPublic(method.getModifiers())) {
                found.put(method.getName(), method);
            }
        }
        return found;
    }

    static long call(DarkGate gate, String name, long... numbers) {
        Method method = CALLS.get(name);
        if (method == null) {
            throw new IllegalArgumentException("no call " + name);
        }
        Class<?>[] kinds = method.getParameterTypes();
        if (kinds.length != numbers.length) {
            throw new IllegalArgumentException(name + " takes " + kinds.length + " numbers");
        }
        Object[] given = new Object[kinds.length];
        for (int i = 0; i < kinds.length; i++) {
            if (kinds[i] == long.class) {
                given[i] = numbers[i];
            } else {
                given[i] = Math.toIntExact(numbers[i]);
            }
        }
        try {
            return ((Number) method.invoke(gate, given)).longValue();
        } catch (InvocationTargetException | IllegalAccessException e) {
            throw new IllegalStateException(name + " failed", e);
        }
    }

    /** A new object in place of the one so far. */
    Check fresh() {
        gate = new DarkGate();
        model = new Model();
        called = 0;
        return this;
    }

    /** A new object with a TOWN in place of the one so far. */
    Check fresh(String town) {
        fresh();
        tape(town);
        long lines = answer("town");
        same("LINES of " + town, lines < 1 ? 1 : 0, 0);
        return this;
    }

    /** Rows such as "comes(2) = 14". */
    Check due(String... rows) {
        for (String row : rows) {
            dueRow(row);
        }
        return this;
    }

    private void dueRow(String row) {
        int open = row.indexOf('(');
        int close = row.indexOf(')');
        int equal = row.indexOf('=');
        String inside = row.substring(open + 1, close).trim();
        String[] parts = inside.isEmpty() ? new String[0] : inside.split(",");
        long[] numbers = new long[parts.length];
        for (int i = 0; i < parts.length; i++) {
            numbers[i] = Long.parseLong(parts[i].trim());
        }
        long want = Long.parseLong(row.substring(equal + 1).trim());
        String name = row.substring(0, open).trim();
        long got = call(gate, name, numbers);
        called++;
        same(sentence + ": " + row, got, want);
        same(sentence + ": the Model's " + row, model.call(name, numbers), want);
        same(sentence + ": calls of one object", Math.max(called, MOST_CALLS), MOST_CALLS);
    }

    private long answer(String name, long... numbers) {
        long got = call(gate, name, numbers);
        called++;
        same(sentence + ": " + name + ", as the Model", got, model.call(name, numbers));
        return got;
    }

    /** How many calls the object has had. */
    int called() {
        return called;
    }

    static void same(String what, long got, long want) {
        asked++;
        if (got != want) {
            wrong++;
            System.out.println(what + ": answered " + got + ", due is " + want);
        }
    }

    /** Puts a text behind the TAPE. */
    Check tape(String text) {
        byte[] bytes = text.getBytes(StandardCharsets.ISO_8859_1);
        long before = answer("count", 7);
        for (int at = 0; at < bytes.length; at += 20) {
            int[] n = fiveNumbers(bytes, at);
            same("room for " + text, answer("feed", n[0], n[1], n[2], n[3], n[4]), before + at + 20);
        }
        answer("end", before + bytes.length);
        return this;
    }

    static void tape(DarkGate gate, String text) {
        byte[] bytes = text.getBytes(StandardCharsets.ISO_8859_1);
        for (int at = 0; at < bytes.length; at += 20) {
            int[] n = fiveNumbers(bytes, at);
            gate.feed(n[0], n[1], n[2], n[3], n[4]);
        }
    }

    static int[] fiveNumbers(byte[] bytes, int at) {
        int[] numbers = new int[5];
        for (int i = 0; i < 20; i++) {
            int sign = at + i < bytes.length ? bytes[at + i] & 255 : 32;
            numbers[i / 4] = numbers[i / 4] << 8 | sign;
        }
        return numbers;
    }

    /** A new object to which a text is a TOWN of so many LINES. */
    Check reads(String text, int lines) {
        return fresh().tape(text).due("town() = " + lines, "fault(0) = 0", "fault(1) = -1", "count(6) = " + lines, "count(7) = 0");
    }

    /** A new object to which a text is none, by a FAULT in a place. */
    Check refuses(String text, int fault, int place) {
        return fresh().tape(text).due("town() = -4", "fault(0) = " + fault, "fault(1) = " + place, "count(0) = 0");
    }

    /** A row of numbers in a SLOT, 8 bytes each. */
    Check slot(int slot, long... numbers) {
        due("row(" + slot + ", 3, " + numbers.length + ") = 0");
        for (int i = 0; i < numbers.length; i++) {
            due("write(" + slot + ", " + i + ", " + numbers[i] + ") = 0");
        }
        return this;
    }

    static void close(String name) {
        System.out.println(name + ": " + asked + " answers, " + wrong + " not as due");
        if (wrong != 0 || asked == 0) {
            System.exit(1);
        }
    }
}
