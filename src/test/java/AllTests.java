/** Runs all tests of the project; the argument is the project's directory. */
final class AllTests {
    private AllTests() {
    }

    public static void main(String[] args) {
        String project = args.length > 0 ? args[0] : ".";
        Check.run("FaceTest", FaceTest::run);
        Check.run("SourceTest", () -> SourceTest.run(project));
        Check.run("ReadmeTest", () -> ReadmeTest.run(project));
        Check.run("DatesTest", DatesTest::run);
        Check.run("StepsTest", StepsTest::run);
        Check.run("EasterTest", EasterTest::run);
        Check.run("RoundsTest", RoundsTest::run);
        Check.run("MeansTest", MeansTest::run);
        Check.run("TapeTest", TapeTest::run);
        Check.run("ReignsTest", ReignsTest::run);
        Check.run("SetTest", SetTest::run);
        Check.run("MeasuresTest", MeasuresTest::run);
        edges(project);
        Check.run("OracleTest", () -> OracleTest.run(false));
        Check.tell();
        System.exit(Check.failed() == 0 ? 0 : 1);
    }

    private static void edges(String project) {
        Check.run("EdgeTermsTest", EdgeTermsTest::run);
        Check.run("EdgeCalendarsTest", EdgeCalendarsTest::run);
        Check.run("EdgeHebrewTest", EdgeHebrewTest::run);
        Check.run("EdgeSkyTest", EdgeSkyTest::run);
        Check.run("EdgeOrderTest", EdgeOrderTest::run);
        Check.run("EdgeDatesTest", EdgeDatesTest::run);
        Check.run("EdgeStepsTest", EdgeStepsTest::run);
        Check.run("EdgeEasterTest", EdgeEasterTest::run);
        Check.run("EdgeRoundsTest", EdgeRoundsTest::run);
        Check.run("EdgeMeansTest", EdgeMeansTest::run);
        Check.run("EdgeTapeTest", EdgeTapeTest::run);
        Check.run("EdgeReignsTest", EdgeReignsTest::run);
        Check.run("EdgeSetTest", EdgeSetTest::run);
        Check.run("EdgeMeasuresTest", EdgeMeasuresTest::run);
        Check.run("QuotesTest", () -> QuotesTest.run(project));
    }
}
