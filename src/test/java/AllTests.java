import java.nio.file.Path;

/** Runs every test of the project; its argument is the program's file. */
public final class AllTests {
    private AllTests() {
    }

    public static void main(String[] args) throws Exception {
        FaceTest.run();
        RulesTest.run(Path.of(args[0]));
        PatternsTest.run();
        PlayingTest.run();
        WhatIfTest.run();
        TextTest.run();
        StateTest.run();
        ModelTest.run();
        System.out.println(Check.checked() + " answers checked, " + Check.wrong() + " not as due");
        if (Check.wrong() != 0) {
            System.exit(1);
        }
    }
}
