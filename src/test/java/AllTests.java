/** Runs all tests of the project; the argument is the project's directory. */
final class AllTests {
    private AllTests() {
    }

    public static void main(String[] args) {
        FaceTest.run();
        SourceTest.run(args.length > 0 ? args[0] : ".");
        DatesTest.run();
        StepsTest.run();
        EasterTest.run();
        RoundsTest.run();
        MeansTest.run();
        TapeTest.run();
        ReignsTest.run();
        SetTest.run();
        MeasuresTest.run();
        OracleTest.run(false);
        Check.tell();
        System.exit(Check.failed() == 0 ? 0 : 1);
    }
}
