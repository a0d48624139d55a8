import java.io.IOException;
import java.nio.charset.StandardCharsets;
import java.nio.file.Files;
import java.nio.file.Path;
import java.util.Arrays;
import java.util.LinkedHashMap;
import java.util.Map;
import java.util.regex.Matcher;
import java.util.regex.Pattern;

/**
 * The document's own words, of which every test tells those that it tests, so that it is seen if
 * words are left without a test, or a test's words do not stand in the document.
 */
final class Said {
    private static final Path DOCUMENT = Path.of("../shared/DOC.md");
    private static final Map<String, String> TEXTS = new LinkedHashMap<>();
    private static final Map<String, boolean[]> QUOTED = new LinkedHashMap<>();

    private Said() {
    }

    /** A new object for what a promise says. */
    static Check promise(int number, String words) {
        return quote("Promise " + number, words);
    }

    /** A new object with a TOWN for what a promise says. */
    static Check promise(int number, String words, String town) {
        return promise(number, words).fresh(town);
    }

    static Check term(String number, String words) {
        return quote("Term " + number, words);
    }

    static Check term(String number, String words, String town) {
        return term(number, words).fresh(town);
    }

    private static Check quote(String place, String words) {
        if (TEXTS.isEmpty()) {
            readDocument();
        }
        String text = TEXTS.getOrDefault(place, "");
        int at = text.indexOf(words);
        Check.same(place + " says \"" + words + "\"", at < 0 ? 0 : 1, 1);
        if (at >= 0) {
            Arrays.fill(QUOTED.get(place), at, at + words.length(), true);
        }
        return new Check(place + ", \"" + words + "\"");
    }

    private static void readDocument() {
        String document;
        try {
            document = Files.readString(DOCUMENT, StandardCharsets.UTF_8);
        } catch (IOException e) {
            throw new IllegalStateException("no document", e);
        }
        Matcher promises = Pattern.compile("(?s)## Promise (\\d+): [^\n]*\n+`[^`]*`: (.*?)(?=\n+## )").matcher(document);
        while (promises.find()) {
            keep("Promise " + promises.group(1), promises.group(2));
        }
        String terms = document.substring(document.indexOf("## Terms"), document.indexOf("## Promise 1:"));
        terms = terms.replace("```text", "").replace("```", "");
        Matcher each = Pattern.compile("(?s)\n([IV]+)\\. (.*?)(?=\n[IV]+\\. |$)").matcher(terms);
        while (each.find()) {
            keep("Term " + each.group(1), each.group(2));
        }
    }

    private static void keep(String place, String text) {
        String plain = text.replaceAll("\\s+", " ").trim();
        TEXTS.put(place, plain);
        QUOTED.put(place, new boolean[plain.length()]);
    }

    /** Every letter and digit of the promises and terms stands in the words of a test. */
    static void checkAllIsQuoted() {
        Check.same("promises", TEXTS.keySet().stream().filter(x -> x.startsWith("Promise")).count(), 62);
        Check.same("terms", TEXTS.keySet().stream().filter(x -> x.startsWith("Term")).count(), 7);
        for (Map.Entry<String, String> entry : TEXTS.entrySet()) {
            String text = entry.getValue();
            boolean[] quoted = QUOTED.get(entry.getKey());
            StringBuilder left = new StringBuilder();
            for (int i = 0; i < text.length(); i++) {
                if (!quoted[i]) {
                    left.append(text.charAt(i));
                }
            }
            boolean untested = left.chars().anyMatch(Character::isLetterOrDigit);
            Check.same(entry.getKey() + " has words without a test: " + left, untested ? 1 : 0, 0);
        }
    }
}
