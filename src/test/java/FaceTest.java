import java.io.IOException;
import java.io.UncheckedIOException;
import java.lang.reflect.Constructor;
import java.lang.reflect.Field;
import java.lang.reflect.Member;
import java.lang.reflect.Method;
import java.lang.reflect.Modifier;
import java.lang.reflect.Parameter;
import java.nio.file.Files;
import java.nio.file.Path;
import java.util.ArrayList;
import java.util.List;
import java.util.Set;
import java.util.TreeSet;
import java.util.regex.Matcher;
import java.util.regex.Pattern;

/** The public face, as the document has it, and the line on the 512 calls. */
public final class FaceTest {
    private static final Path DOCUMENT = Path.of("../shared/DOC.md");
    private static final Pattern CALL = Pattern.compile("    (public (?:int |long )?)(\\w+)\\((.*)\\);");
    private static final Pattern CONSTANT = Pattern.compile("    (public static final int \\w+) = (-?\\d+);");

    private FaceTest() {
    }

    public static void main(String[] args) throws ReflectiveOperationException {
        Set<String> due = new TreeSet<>();
        for (String line : lines()) {
            Matcher call = CALL.matcher(line);
            Matcher constant = CONSTANT.matcher(line);
            if (call.matches()) {
                due.add(call.group(1) + call.group(2) + "(" + call.group(3).replaceAll("(int|long) \\w+", "$1") + ")");
            } else if (constant.matches()) {
                due.add(constant.group(1) + " = " + constant.group(2));
            } else {
                boolean frame = line.equals("public final class DarkGate {") || line.equals("}");
                Check.same("the face's line is read: " + line, frame ? 1 : 0, 1);
            }
        }
        Set<String> got = face();
        Check.same("members of the face", due.size(), 63);
        for (String one : due) {
            Check.same("the class has " + one, got.contains(one) ? 1 : 0, 1);
        }
        for (String one : got) {
            Check.same("the document has " + one, due.contains(one) ? 1 : 0, 1);
        }
        Check.same("DarkGate is public and final, and no more", DarkGate.class.getModifiers(), Modifier.PUBLIC | Modifier.FINAL);
        Check.same("what DarkGate implements", DarkGate.class.getInterfaces().length, 0);
        Check.same("DarkGate extends Object", DarkGate.class.getSuperclass() == Object.class ? 1 : 0, 1);
        lastCalls();
        Check.close("FaceTest");
    }

    /** The lines of the document's face. */
    private static List<String> lines() {
        try {
            String document = Files.readString(DOCUMENT);
            int from = document.indexOf("```java\n", document.indexOf("## The public face")) + "```java\n".length();
            return document.substring(from, document.indexOf("\n```", from)).lines().toList();
        } catch (IOException e) {
            throw new UncheckedIOException(e);
        }
    }

    /** The document's calls with the names of their numbers, such as "cart(size, i)". */
    static List<String> callsByNames() {
        List<String> calls = new ArrayList<>();
        for (String line : lines()) {
            Matcher call = CALL.matcher(line);
            if (call.matches() && !call.group(2).equals("DarkGate")) {
                calls.add(call.group(2) + "(" + call.group(3).replaceAll("(int|long) ", "") + ")");
            }
        }
        return calls;
    }

    /** All that the class has and does not keep private, its classes aside. */
    private static Set<String> face() throws ReflectiveOperationException {
        Set<String> found = new TreeSet<>();
        for (Method method : DarkGate.class.getDeclaredMethods()) {
            if (isSeen(method)) {
                found.add(Modifier.toString(method.getModifiers()) + " " + method.getReturnType() + " " + method.getName()
                        + numbers(method.getParameters()));
            }
        }
        for (Constructor<?> constructor : DarkGate.class.getDeclaredConstructors()) {
            if (isSeen(constructor)) {
                found.add(Modifier.toString(constructor.getModifiers()) + " DarkGate" + numbers(constructor.getParameters()));
            }
        }
        for (Field field : DarkGate.class.getDeclaredFields()) {
            if (isSeen(field)) {
                String kind = Modifier.toString(field.getModifiers()) + " " + field.getType() + " " + field.getName();
                found.add(Modifier.isStatic(field.getModifiers()) ? kind + " = " + field.get(null) : kind);
            }
        }
        return found;
    }

    private static boolean isSeen(Member member) {
        return !Modifier.isPrivate(member.getModifiers());
    }

    private static String numbers(Parameter[] parameters) {
        List<String> kinds = new ArrayList<>();
        for (Parameter parameter : parameters) {
            kinds.add(parameter.getType().toString());
        }
        return "(" + String.join(", ", kinds) + ")";
    }

    /** "An object is used for at most 512 calls": each of these, and the last, is answered. */
    private static void lastCalls() {
        Check x = new Check("512 calls").fresh("town streets 2;lane 0 to 1 takes 5;gate at 0 holds 3;");
        while (x.called() < 512 - 3) {
            x.due("comes(1) = 8");
        }
        x.due("holds(0, 99) = 3", "comes(1) = 104", "undo() = 0");
        Check.same("calls of the object", x.called(), 512);
    }
}
