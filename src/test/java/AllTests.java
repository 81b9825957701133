import java.io.IOException;
import java.nio.file.Path;

/** Runs every test of the project; its arguments are the program's file and the document's. */
public final class AllTests {
    private AllTests() {
    }

    public static void main(String[] args) throws IOException {
        FaceTest.run();
        RulesTest.run(Path.of(args[0]));
        LanguageTest.run(Path.of(args[0]));
        sentences(new Document(Path.of(args[1])));
        PatternsTest.run();
        PlayingTest.run();
        WhatIfTest.run();
        TextTest.run();
        StateTest.run();
        ModelTest.run();
        System.out.println(Check.checked() + " answers checked, " + Check.wrong() + " not as due");
        if (Check.wrong() != 0) {
            System.exit(1);
        }
    }

    private static void sentences(Document document) {
        TermsSentences.run(document);
        PatternSentences.run(document);
        PlayingSentences.run(document);
        QuestionSentences.run(document);
        TextSentences.run(document);
        StateSentences.run(document);
        document.allIsTold();
    }
}
