import java.io.IOException;
import java.nio.file.Files;
import java.nio.file.Path;
import java.util.List;
import java.util.Map;
import java.util.TreeMap;
import java.util.regex.Matcher;
import java.util.regex.Pattern;
import java.util.stream.Stream;

/** The tests tell the document's own sentences, and leave none of them out (see Check.says). */
public final class SentencesTest {
    private static final Pattern SAYS =
        Pattern.compile("Check\\.says\\(\\s*(\\d+),\\s*((?:\"[^\"]*\"\\s*\\+?\\s*)+)\\)");

    public static void main(String[] args) throws IOException {
        Path file = Path.of("../shared/DOC.md");
        if (!Files.isReadable(file)) {
            System.out.println("no document is there to look at: " + file);
            return;
        }
        Map<Integer, String> document = document(Files.readString(file));
        Check.due("promises", document.size() - 1, 49);
        Map<Integer, boolean[]> told = new TreeMap<>();
        document.forEach((promise, text) -> told.put(promise, new boolean[text.length()]));
        for (String source : sources()) {
            Matcher says = SAYS.matcher(source);
            while (says.find()) {
                int promise = Integer.parseInt(says.group(1));
                String words = says.group(2).replaceAll("\"\\s*\\+\\s*\"", "").trim();
                mark(promise, words.substring(1, words.length() - 1), document, told);
            }
        }
        told.forEach((promise, isTold) -> leftOut(promise, document.get(promise), isTold));
        Check.finish();
    }

    private static List<String> sources() throws IOException {
        try (Stream<Path> files = Files.list(Path.of("src/test/java"))) {
            List<Path> tests = files.filter(file -> file.toString().endsWith("Test.java")).sorted().toList();
            String[] sources = new String[tests.size()];
            for (int i = 0; i < sources.length; i++) {
                sources[i] = Files.readString(tests.get(i));
            }
            return List.of(sources);
        }
    }

    /** What the document says, promise by promise, without the lines that are Java; 0: ahead of them all. */
    private static Map<Integer, String> document(String text) {
        Map<Integer, String> parts = new TreeMap<>();
        String limit = text.substring(text.indexOf("An object is used"), text.indexOf("## The public face"));
        String terms = text.substring(text.indexOf("## Terms") + 8, text.indexOf("## Promise 1:"));
        parts.put(0, plain(limit + terms));
        Matcher promise = Pattern.compile("(?s)## Promise (\\d+): \\w[^\n]*\n\\s*`[^`]*`:(.*?)(?=\n## |$)").matcher(text);
        while (promise.find()) {
            parts.put(Integer.parseInt(promise.group(1)), plain(promise.group(2)));
        }
        return parts;
    }

    private static String plain(String text) {
        return text.replace("```text", " ").replace("`", "").replaceAll("\\s+", " ").trim();
    }

    private static void mark(int promise, String words, Map<Integer, String> document, Map<Integer, boolean[]> told) {
        String text = document.getOrDefault(promise, "");
        int at = text.indexOf(words);
        Check.due("promise " + promise + " says \"" + words + "\"", at >= 0, true);
        while (at >= 0) {
            for (int i = at; i < at + words.length(); i++) {
                told.get(promise)[i] = true;
            }
            at = text.indexOf(words, at + 1);
        }
    }

    /** Signs between two sentences need no test; words do. */
    private static void leftOut(int promise, String text, boolean[] isTold) {
        StringBuilder left = new StringBuilder();
        for (int i = 0; i < isTold.length; i++) {
            left.append(isTold[i] ? '\n' : text.charAt(i));
        }
        for (String words : left.toString().split("\n+")) {
            boolean isWords = words.matches(".*[A-Za-z0-9].*") && !words.trim().equals("The constants:");
            Check.due("promise " + promise + " says, and no test does: \"" + words.trim() + "\"", isWords, false);
        }
    }
}
