/** Runs every test of the project; its argument is the path of CrewPay.java. */
public final class AllTests {
    public static void main(String[] args) throws Exception {
        Checks checks = new Checks();
        FaceTest.run(checks);
        LanguageTest.run(checks, args[0]);
        ReadmeTest.run(checks);
        WorkersAndRulesTest.run(checks);
        SheetsTest.run(checks);
        OrdersTest.run(checks);
        PotsTest.run(checks);
        PayingTest.run(checks);
        BoundariesTest.run(checks);
        ArgumentEndsTest.run(checks);
        RandomRunsTest.run(checks);
        System.out.println(checks.summary());
        System.exit(checks.allHold() ? 0 : 1);
    }
}
