/** Runs all tests of the project; exit code 1 if one fails. */
public final class AllTests {
    private AllTests() {
    }

    public static void main(String[] args) throws Exception {
        PromiseTests.runAll();
        FaceTests.runAll();
        WildTests.runAll();
        String program = args.length > 0 ? args[0] : "src/main/java/SaintCarried.java";
        LanguageTests.runAll(program);
        DepthTests.runAll(program);
        ModelTests.runAll(150, 1);
        System.out.println(Check.passed + " passed, " + Check.failed + " failed");
        if (Check.failed > 0) {
            System.exit(1);
        }
    }
}
