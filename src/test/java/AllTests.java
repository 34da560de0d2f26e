/** Runs all tests of the project; exit code 1 if one fails. The program, the document, the page may be told by their paths. */
public final class AllTests {
    private AllTests() {
    }

    public static void main(String[] args) throws Exception {
        String program = args.length > 0 ? args[0] : "src/main/java/SaintCarried.java";
        String document = args.length > 1 ? args[1] : "../shared/DOC.md";
        String page = args.length > 2 ? args[2] : "README.md";
        PromiseTests.runAll();
        BoundsOfTexts.runAll();
        BoundsOfDoors.runAll();
        BoundsOfAsking.runAll();
        BoundsOfOdds.runAll();
        BoundsOfYears.runAll();
        BoundsOfRefusals.runAll();
        DocumentTests.runAll(document);
        FaceTests.runAll();
        WildTests.runAll();
        LanguageTests.runAll(program);
        DepthTests.runAll(program);
        ReadmeTests.runAll(page);
        ModelTests.runAll(150, 1);
        System.out.println(Check.passed + " passed, " + Check.failed + " failed");
        if (Check.failed > 0) {
            System.exit(1);
        }
    }
}
