import java.io.IOException;
import java.nio.charset.StandardCharsets;
import java.nio.file.Files;
import java.nio.file.Path;

/** Tests by sentence: each names the document's words that it holds the class to, and these must stand in it. */
final class Sentences {
    final Checks checks;
    private final String document;
    private String sentence = "";

    Sentences(String title) throws IOException {
        checks = new Checks(title);
        document = oneLine(Files.readString(Path.of("../shared/DOC.md"), StandardCharsets.UTF_8));
    }

    void says(String words, Runnable test) {
        checks.isTrue("the document says: " + words, document.contains(oneLine(words)));
        sentence = words;
        test.run();
    }

    /** What is asked, with the sentence ahead of it. */
    String of(String what) {
        return "'" + sentence + "': " + what;
    }

    void same(String what, long got, long due) {
        checks.same(of(what), got, due);
    }

    void end() {
        checks.end();
    }

    private static String oneLine(String s) {
        return s.replaceAll("\\s+", " ");
    }
}
