import java.io.IOException;
import java.nio.file.Files;
import java.nio.file.Path;
import java.util.ArrayList;
import java.util.LinkedHashMap;
import java.util.List;
import java.util.Map;
import java.util.regex.Matcher;
import java.util.regex.Pattern;

/** Every word of the document's Terms and promises is quoted by a test, and every quoted sentence stands in the document. */
final class SentencesTest {
    private static final Path DOCUMENT = Path.of("../shared/DOC.md");
    private static final Path TESTS = Path.of("src/test/java");
    private static final Pattern QUOTE = Pattern.compile("Check\\.sentence\\(\"(\\w+)\",\\s*(\"[^\"]*\"(?:\\s*\\+\\s*\"[^\"]*\")*)\\)");

    public static void main(String[] args) throws IOException {
        Map<String, String> document = document();
        Map<String, List<String>> quotes = quotes();
        Check.due("promises and lines of the Terms", document.size(), 41 + 11);
        for (String where : quotes.keySet()) {
            for (String quote : quotes.get(where)) {
                Check.that(where + " says '" + quote + "'", document.getOrDefault(where, "").contains(quote));
            }
        }
        for (String where : document.keySet()) {
            String left = unquoted(document.get(where), quotes.getOrDefault(where, List.of()));
            Check.that(where + ": no test quotes '" + left + "'", left.isEmpty());
        }
        Check.end("SentencesTest");
    }

    /** What each promise says, by its number, and each line of the Terms, by its first word in capitals. */
    private static Map<String, String> document() throws IOException {
        Map<String, String> said = new LinkedHashMap<>();
        String promise = "";
        boolean counts = false;
        for (String line : Files.readAllLines(DOCUMENT)) {
            Matcher head = Pattern.compile("## Promise (\\d+): .*").matcher(line);
            boolean isPromise = head.matches();
            if (line.startsWith("## ")) {
                counts = isPromise || line.equals("## Terms");
                promise = isPromise ? head.group(1) : "";
            } else if (counts && !line.isBlank() && !line.startsWith("```") && !line.startsWith("Ahead of the calls")) {
                String words = line.strip().replaceFirst("^`[^`]*`: |^\\d\\. ", "");
                Matcher capitals = Pattern.compile("\\b[A-Z]{2,}\\b").matcher(words);
                said.put(!promise.isEmpty() ? promise : capitals.find() ? capitals.group() : "?", words);
            }
        }
        return said;
    }

    private static Map<String, List<String>> quotes() throws IOException {
        Map<String, List<String>> quotes = new LinkedHashMap<>();
        try (var files = Files.list(TESTS)) {
            for (Path file : files.sorted().toList()) {
                Matcher m = QUOTE.matcher(Files.readString(file));
                while (m.find()) {
                    String quote = m.group(2).replaceAll("\"\\s*\\+\\s*\"", "");
                    quotes.computeIfAbsent(m.group(1), k -> new ArrayList<>()).add(quote.substring(1, quote.length() - 1));
                }
            }
        }
        return quotes;
    }

    /** What is left of a text without its quoted parts, blanks and points. */
    private static String unquoted(String text, List<String> quotes) {
        boolean[] quoted = new boolean[text.length()];
        for (String quote : quotes) {
            for (int at = text.indexOf(quote); at >= 0; at = text.indexOf(quote, at + 1)) {
                java.util.Arrays.fill(quoted, at, at + quote.length(), true);
            }
        }
        StringBuilder left = new StringBuilder();
        for (int i = 0; i < text.length(); i++) {
            left.append(quoted[i] ? ' ' : text.charAt(i));
        }
        return left.toString().strip();
    }
}
