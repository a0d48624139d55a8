import java.io.IOException;
import java.lang.reflect.InvocationTargetException;
import java.net.URL;
import java.net.URLClassLoader;
import java.nio.file.Files;
import java.nio.file.Path;
import java.util.ArrayList;
import java.util.List;
import java.util.regex.Matcher;
import java.util.regex.Pattern;
import javax.tools.ToolProvider;

/**
 * README.md does as it says. Its Java is compiled as it stands, but for the calls with an answer
 * behind them, which are asked.
 */
public final class ReadmeTest {
    private static final Pattern BLOCK = Pattern.compile("(?s)```(\\w+)\n(.*?)```");
    private static final Pattern SHOWN = Pattern.compile("(.+);  // (-?\\d+)(:.*)?");
    private static final Pattern CALL = Pattern.compile("`(\\w+\\([\\w, ]*\\))`");
    private static final int SHOWN_AT_LEAST = 40;

    private ReadmeTest() {
    }

    public static void main(String[] args) throws IOException, ReflectiveOperationException {
        String readme = Files.readString(Path.of("README.md"));
        List<String> members = new ArrayList<>();
        List<String> statements = new ArrayList<>();
        boolean namesCommand = false;
        Matcher block = BLOCK.matcher(readme);
        while (block.find()) {
            if (block.group(1).equals("java")) {
                (block.group(2).startsWith("static ") ? members : statements).add(block.group(2));
            }
            namesCommand |= block.group(1).equals("sh") && block.group(2).trim().equals("bash .ci/run");
        }
        Check.same("README.md names the command of the tests", namesCommand ? 1 : 0, 1);
        Check.same("the command stands", Files.isExecutable(Path.of(".ci/run")) ? 1 : 0, 1);
        namesEveryCall(readme);
        namesEveryTest(readme);
        run(program(members, statements));
        Check.close("ReadmeTest");
    }

    private static void namesEveryCall(String readme) {
        List<String> named = new ArrayList<>();
        Matcher call = CALL.matcher(readme);
        while (call.find()) {
            named.add(call.group(1));
        }
        List<String> due = FaceTest.callsByNames();
        for (String one : due) {
            Check.same("README.md names " + one, named.stream().filter(one::equals).count(), 1);
        }
        for (String one : named) {
            Check.same("README.md's " + one + " is a call", due.contains(one) ? 1 : 0, 1);
        }
    }

    private static void namesEveryTest(String readme) throws IOException {
        try (var files = Files.list(Path.of("src/test/java"))) {
            files.map(x -> x.getFileName().toString()).filter(x -> x.endsWith("Test.java")).forEach(x -> {
                String name = x.substring(0, x.length() - 5);
                Check.same("README.md names " + name, readme.contains("`" + name + "`") ? 1 : 0, 1);
            });
        }
    }

    private static String program(List<String> members, List<String> statements) {
        StringBuilder text = new StringBuilder("public final class ReadmeShown {\n");
        members.forEach(text::append);
        text.append("public static void ask() {\n");
        int shown = 0;
        for (String line : String.join("\n", statements).split("\n")) {
            Matcher answered = SHOWN.matcher(line);
            if (answered.matches()) {
                shown++;
                String call = answered.group(1);
                String told = "\"README.md: " + call.replace("\"", "\\\"") + "\"";
                text.append("ReadmeTest.shown(").append(told).append(", ").append(call).append(", ").append(answered.group(2)).append(");\n");
            } else {
                Check.same("README.md tells what is answered: " + line, line.contains("//") ? 0 : 1, 1);
                text.append(line).append('\n');
            }
        }
        Check.same("calls that README.md shows: " + shown, shown < SHOWN_AT_LEAST ? 0 : 1, 1);
        return text.append("}\n}\n").toString();
    }

    /** Public, as what is compiled of README.md is of another loader. */
    public static void shown(String call, long got, long want) {
        Check.same(call, got, want);
    }

    private static void run(String program) throws IOException, ReflectiveOperationException {
        Path folder = Files.createTempDirectory("readme");
        Path source = folder.resolve("ReadmeShown.java");
        Path made = folder.resolve("ReadmeShown.class");
        Files.writeString(source, program);
        int failed = ToolProvider.getSystemJavaCompiler().run(null, null, null, "-cp", System.getProperty("java.class.path"), "-d",
                folder.toString(), source.toString());
        Check.same("README.md's Java compiles", failed, 0);
        if (failed == 0) {
            try (URLClassLoader loader = new URLClassLoader(new URL[] {folder.toUri().toURL()})) {
                loader.loadClass("ReadmeShown").getMethod("ask").invoke(null);
            } catch (InvocationTargetException e) {
                throw new IllegalStateException("README.md's calls fail", e.getCause());
            }
        }
        Files.deleteIfExists(made);
        Files.delete(source);
        Files.delete(folder);
    }
}
