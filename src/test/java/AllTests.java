/** Runs all tests of the project. */
public final class AllTests {
    private AllTests() {
    }

    public static void main(String[] args) throws Exception {
        LanguageTest.run(args.length > 0 ? args[0] : "src/main/java/WakeVillage.java");
        ReadmeTest.run("README.md");
        TextTest.run();
        EdgeTextTest.run();
        ScriptTest.run();
        EdgeScriptTest.run();
        ViewTest.run();
        WakeTest.run();
        ForecastTest.run();
        TickTest.run();
        EdgeTickTest.run();
        ChangeTest.run();
        EdgeRefusalTest.run();
        EdgePromiseTest.run();
        KeepingTest.run();
        EdgeChangeTest.run();
        CompareTest.run(300, 200);
        System.out.println(Check.passed + " passed, " + Check.failed + " failed");
        if (Check.failed != 0) {
            System.exit(1);
        }
    }
}
