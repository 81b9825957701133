import java.io.IOException;
import java.nio.file.Path;

/** Runs every test of the project; its arguments are the project's folder, the document and a folder to build in. */
public final class AllTests {
    private AllTests() {
    }

    public static void main(String[] args) throws IOException {
        Path root = Path.of(args[0]);
        Path document = Path.of(args[1]);
        Path program = root.resolve("src/main/java/ChannelLoom.java");
        FaceTest.run();
        RulesTest.run(program);
        LanguageTest.run(program);
        sentences(new Document(document));
        PatternsTest.run();
        PlayingTest.run();
        WhatIfTest.run();
        TextTest.run();
        StateTest.run();
        ModelTest.run();
        ReadmeTest.run(root, document, Path.of(args[2]));
        System.out.println(Check.checked() + " answers checked, " + Check.wrong() + " not as due");
        if (Check.wrong() != 0) {
            System.exit(1);
        }
    }

    private static void sentences(Document document) {
        TermsSentences.run(document);
        PatternSentences.run(document);
        PlayingSentences.run(document);
        QuestionSentences.run(document);
        TextSentences.run(document);
        StateSentences.run(document);
        document.allIsTold();
    }
}
