import java.io.IOException;
import java.nio.file.Files;
import java.nio.file.Path;
import java.util.regex.Matcher;
import java.util.regex.Pattern;

/** Some rules of LANGUAGE.md that can be seen in the program's text. */
final class RulesTest {
    private static final String[] FORBIDDEN = {
        "->", "::", "\\bimport\\b", "\\bpackage\\b", "\\bsynchronized\\b", "\\bassert\\b", "\\bfinally\\b",
        "\\bcatch\\b", "\\btry\\b", "Exact\\(", "static \\{", "\\bSystem\\.(?!arraycopy)", "\\bThread\\b", "\\bRandom\\b",
        "\\bMath\\.(?!min|max|abs|floorDiv|floorMod)", "\\bprotected\\b",
        "throw new (?!IllegalStateException|IllegalArgumentException|IndexOutOfBoundsException)",
        "static (?!final|int |long |boolean |void )", "[^\\x00-\\x7f]"
    };

    private RulesTest() {
    }

    static void run(Path program) throws IOException {
        String code = Files.readString(program).replaceAll("/\\*\\*.*?\\*/", "").replaceAll("//[^\n]*", "");
        for (String words : FORBIDDEN) {
            Matcher found = Pattern.compile(words).matcher(code);
            Check.holds("the program has no " + words, !found.find());
        }
        Matcher fields = Pattern.compile("(?m)^    private (?!static|final|int \\w+\\(|void \\w+\\()").matcher(code);
        Check.holds("the outer class keeps final fields alone", !fields.find());
    }
}
