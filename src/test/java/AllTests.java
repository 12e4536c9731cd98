/** Runs all tests of the project; the argument is the project's directory. */
final class AllTests {
    private AllTests() {
    }

    public static void main(String[] args) {
        FaceTest.run();
        OracleTest.run(false);
        Check.tell();
        System.exit(Check.failed() == 0 ? 0 : 1);
    }
}
