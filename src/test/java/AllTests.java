/** Runs all tests of the project; ends with exit code 1 if one failed. */
public final class AllTests {
    private AllTests() {
    }

    public static void main(String[] args) throws Exception {
        Checks checks = new Checks();
        FaceTest.run(checks);
        BathTest.run(checks);
        SheetTest.run(checks);
        SewingTest.run(checks);
        SpineTest.run(checks);
        SkinTest.run(checks);
        RepairTest.run(checks);
        YearTest.run(checks);
        ModelTest.run(checks);
        if (!checks.report()) {
            System.exit(1);
        }
    }
}
