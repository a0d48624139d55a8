import java.io.IOException;
import java.lang.reflect.Field;
import java.lang.reflect.Method;
import java.lang.reflect.Modifier;
import java.nio.file.Files;
import java.nio.file.Path;
import java.util.HashSet;
import java.util.List;
import java.util.Set;
import java.util.regex.Matcher;
import java.util.regex.Pattern;

/** Rules of LANGUAGE.md that can be read off the source or the class. */
public final class LanguageTest {
    private static final List<String> REFUSED = List.of("throw", "throws", "try", "catch", "finally", "synchronized", "assert",
            "volatile", "transient", "native", "protected", "Object", "System.out", "System.currentTimeMillis",
            "System.nanoTime", "Random", "Thread", "var", "->", "::", "Exact(", "@");

    public static void main(String[] args) throws IOException {
        String source = Files.readString(Path.of("src/main/java/DarkGate.java"));
        String code = plain(source);
        for (String word : REFUSED) {
            boolean named = Character.isLetter(word.charAt(0)) && Character.isLetter(word.charAt(word.length() - 1));
            Matcher found = Pattern.compile(named ? "\\b" + Pattern.quote(word) + "\\b" : Pattern.quote(word)).matcher(code);
            Check.same("the source has " + word, found.find() ? 1 : 0, 0);
        }
        imports(code);
        methodLengths(code);
        outside();
        for (Class<?> inside : DarkGate.class.getDeclaredClasses()) {
            inside(inside);
        }
        Check.same("classes above twelve", Math.max(12, 1 + DarkGate.class.getDeclaredClasses().length), 12);
        Check.close("LanguageTest");
    }

    /** The source without its comments and texts. */
    private static String plain(String source) {
        return source.replaceAll("(?s)/\\*.*?\\*/", "").replaceAll("//[^\n]*", "").replaceAll("\"[^\"\n]*\"", "\"\"");
    }

    private static void imports(String code) {
        Matcher found = Pattern.compile("(?m)^import (.*);$").matcher(code);
        while (found.find()) {
            Check.same("import of " + found.group(1), found.group(1).equals("java.util.Arrays") ? 0 : 1, 0);
        }
    }

    private static void methodLengths(String code) {
        String[] lines = code.split("\n");
        for (int i = 0; i < lines.length; i++) {
            Matcher head = Pattern.compile("^( +)[a-zA-Z].*\\) \\{$").matcher(lines[i]);
            if (head.matches() && head.group(1).length() <= 8 && !lines[i].contains("class ")) {
                int end = i;
                while (end < lines.length && !lines[end].equals(head.group(1) + "}")) {
                    end++;
                }
                Check.same("lines above sixty of " + lines[i].trim(), Math.max(60, end - i + 1), 60);
            }
        }
    }

    /** What FaceTest does not ask of the class itself. */
    private static void outside() {
        for (Method method : DarkGate.class.getDeclaredMethods()) {
            boolean open = Modifier.isPublic(method.getModifiers());
            Check.same(method + " bears a public name", !open && Check.CALLS.containsKey(method.getName()) ? 1 : 0, 0);
        }
        fields(DarkGate.class);
    }

    private static void inside(Class<?> inside) {
        Check.same(inside + " is static", Modifier.isStatic(inside.getModifiers()) ? 0 : 1, 0);
        for (Method method : inside.getDeclaredMethods()) {
            Check.same(method + " bears a public name", Check.CALLS.containsKey(method.getName()) ? 1 : 0, 0);
            Check.same("parameters above seven of " + method, Math.max(7, method.getParameterCount()), 7);
        }
        fields(inside);
    }

    private static void fields(Class<?> owner) {
        int own = 0;
        Set<Class<?>> fine = new HashSet<>(List.of(int.class, long.class, boolean.class, char.class, String.class, int[].class,
                long[].class, char[].class, byte[].class));
        for (Field field : owner.getDeclaredFields()) {
            if (Modifier.isStatic(field.getModifiers())) {
                Check.same(field + " is final", Modifier.isFinal(field.getModifiers()) && fine.contains(field.getType()) ? 0 : 1, 0);
            } else {
                own++;
            }
        }
        Check.same("fields above twenty of " + owner, Math.max(20, own), 20);
    }
}
