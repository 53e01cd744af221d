import java.io.IOException;
import java.nio.file.Files;
import java.nio.file.Path;
import java.util.Arrays;

/**
 * A part of the document, and which of its words the tests have quoted: a
 * sentence that no test quotes, or that stands there otherwise, is found.
 */
final class Document {
    private static final Path FILE = Path.of("../shared/DOC.md");

    private final String text;
    private final boolean[] quoted;

    private Document(String text) {
        this.text = text;
        quoted = new boolean[text.length()];
    }

    /** What stands between two headings, without the signs that only set it. */
    static Document between(String from, String to) throws IOException {
        String all = Files.readString(FILE);
        int start = all.indexOf(from) + from.length();
        String part = all.substring(start, all.indexOf(to, start));
        return new Document(plain(part));
    }

    private static String plain(String part) {
        return part.replaceAll("```(text)?", " ").replaceAll("(?m)^(## |(I|II|III|IV)\\. )", " ").replace("&lt;", "<")
                .replace("&gt;", ">").replaceAll("`", "").replaceAll("\\s+", " ").trim();
    }

    void quote(String words) {
        Calls.about(words);
        int at = text.indexOf(words);
        if (at < 0) {
            Calls.fail("this does not stand in the document");
            return;
        }
        Arrays.fill(quoted, at, at + words.length(), true);
    }

    void allQuoted() {
        StringBuilder left = new StringBuilder();
        for (int i = 0; i < text.length(); i++) {
            if (!quoted[i]) {
                left.append(text.charAt(i));
            }
        }
        Calls.about("the document");
        if (!left.toString().isBlank()) {
            Calls.fail("no test quotes: " + left.toString().trim());
        }
    }
}
