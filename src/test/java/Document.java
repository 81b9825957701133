import java.io.IOException;
import java.nio.file.Files;
import java.nio.file.Path;
import java.util.Arrays;
import java.util.LinkedHashMap;
import java.util.Map;
import java.util.regex.Pattern;

/**
 * The document and the tests of its sentences: each test says in the document's own words which sentence it is of.
 * A test of words that the document doesn't have fails, and so does a sentence that no test is of.
 */
final class Document {
    /** The headings in the terms, and what is said of the order of the calls in the interface. */
    private static final Pattern WITHOUT_TEST =
            Pattern.compile("(Patterns|Order|Channels|Playing|Hash|Text|Undo|Exceptions)\\.|Ahead of the calls .*");

    private final Map<String, String> chapters = new LinkedHashMap<>();
    /** What no test is of yet: the words of a test are blanked out here. */
    private final Map<String, StringBuilder> untold = new LinkedHashMap<>();
    private String chapter = "";

    Document(Path file) throws IOException {
        for (String text : Files.readString(file).split("(?m)^## ")) {
            int end = text.indexOf('\n');
            String title = end < 0 ? text : text.substring(0, end);
            chapters.put(title, text.substring(title.length()));
            untold.put(title, new StringBuilder(chapters.get(title)));
        }
    }

    void open(String title) {
        chapter = title;
        Check.holds("the document has a chapter " + title, chapters.containsKey(title));
    }

    /** The test of a sentence, or of the part of one that names a boundary case. */
    void says(String words, Runnable test) {
        String text = chapters.getOrDefault(chapter, "");
        Check.holds(chapter + " says: " + words, text.contains(words));
        blank(words, text);
        int before = Check.checked();
        Check.begin(chapter + ": " + words);
        try {
            test.run();
        } catch (RuntimeException e) {
            Check.holds("nothing else is thrown; but " + e, false);
        }
        Check.begin("");
        Check.holds(chapter + ": " + words + " is checked", Check.checked() > before);
    }

    private void blank(String words, String text) {
        for (int at = text.indexOf(words); at >= 0; at = text.indexOf(words, at + words.length())) {
            untold.get(chapter).replace(at, at + words.length(), "\u0000".repeat(words.length()));
        }
    }

    void allIsTold() {
        for (Map.Entry<String, StringBuilder> entry : untold.entrySet()) {
            if (entry.getKey().equals("Terms") || entry.getKey().startsWith("Promise ")) {
                Arrays.stream(entry.getValue().toString().split("\n|(?<=\\.\\)?) "))
                        .filter(s -> s.matches(".*[a-z].*") && s.indexOf('\u0000') < 0)
                        .filter(s -> !WITHOUT_TEST.matcher(s).matches())
                        .forEach(s -> Check.holds(entry.getKey() + ": a test is of: " + s, false));
            }
        }
    }
}
