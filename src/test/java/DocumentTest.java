import java.io.IOException;
import java.nio.charset.StandardCharsets;
import java.nio.file.Files;
import java.nio.file.Path;
import java.util.List;
import java.util.regex.Matcher;
import java.util.regex.Pattern;
import java.util.stream.Collectors;
import java.util.stream.Stream;

/** Every sentence of the document from 'Terms' to 'Not promised' is quoted by a test that holds the class to it. */
public final class DocumentTest {
    private static final Checks C = new Checks("the document's sentences");
    private static final Pattern QUOTED = Pattern.compile("says\\(\\s*((?:\"(?:[^\"\\\\]|\\\\.)*\"\\s*\\+?\\s*)+),");
    private static final Pattern TEXT = Pattern.compile("\"((?:[^\"\\\\]|\\\\.)*)\"");
    // headings, signatures, marks, and where the interface has a line of its own: they tell no answer
    private static final Pattern NO_SENTENCE = Pattern.compile("^#+ .*$|^`[^`]*`:|```(?:text)?|={8}|^Ahead of the calls .*$",
            Pattern.MULTILINE);

    public static void main(String[] args) throws IOException {
        String text = Files.readString(Path.of("../shared/DOC.md"), StandardCharsets.UTF_8);
        String rules = text.substring(text.indexOf("## Terms"), text.indexOf("## Not promised"));
        String words = oneLine(NO_SENTENCE.matcher(rules).replaceAll(" "));
        boolean[] quoted = new boolean[words.length()];
        int quotes = 0;
        for (Path test : tests()) {
            Matcher m = QUOTED.matcher(Files.readString(test, StandardCharsets.UTF_8));
            while (m.find()) {
                quotes++;
                mark(words, quoted, oneLine(joined(m.group(1))));
            }
        }
        C.isTrue("quotes are found: " + quotes, quotes > 100);
        unquoted(words, quoted);
        eachPromiseIsTested();
        C.end();
    }

    private static List<Path> tests() throws IOException {
        try (Stream<Path> all = Files.list(Path.of("src/test/java"))) {
            return all.filter(p -> p.toString().endsWith("Test.java")).sorted().collect(Collectors.toList());
        }
    }

    private static String oneLine(String s) {
        return s.replaceAll("\\s+", " ");
    }

    private static String joined(String texts) {
        StringBuilder b = new StringBuilder();
        Matcher m = TEXT.matcher(texts);
        while (m.find()) {
            b.append(m.group(1));
        }
        return b.toString();
    }

    private static void mark(String words, boolean[] quoted, String quote) {
        for (int at = words.indexOf(quote); at >= 0; at = words.indexOf(quote, at + 1)) {
            for (int i = at; i < at + quote.length(); i++) {
                quoted[i] = true;
            }
        }
    }

    /** Between two quotes nothing but a sign or a blank may be left. */
    private static void unquoted(String words, boolean[] quoted) {
        for (int i = 0; i < words.length(); i++) {
            int end = i;
            while (end < words.length() && !quoted[end]) {
                end++;
            }
            String left = words.substring(i, end);
            if (!left.isEmpty()) {
                C.isTrue("quoted by no test: " + left, !left.matches(".*[A-Za-z0-9].*"));
            }
            i = end;
        }
    }

    /** PromiseTest names the promise ahead of each thing that it asks. */
    private static void eachPromiseIsTested() throws IOException {
        String test = Files.readString(Path.of("src/test/java/PromiseTest.java"), StandardCharsets.UTF_8);
        for (int promise = 1; promise <= 38; promise++) {
            C.isTrue("promise " + promise, Pattern.compile("\"" + promise + "[:\"]").matcher(test).find());
        }
    }
}
