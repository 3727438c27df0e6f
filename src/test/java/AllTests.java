/** Runs every test of the project. */
public final class AllTests {
    private AllTests() {
    }

    public static void main(String[] args) throws Exception {
        AgentTests.run();
        HandTests.run();
        ViewTests.run();
        ReadingTests.run();
        RequestTests.run();
        GuardTests.run();
        NoticeTests.run();
        ManagerTests.run();
        LineTests.run();
        WholeTests.run();
        ModelTests.run();
        ThrowsTests.run();
        BytesEdges.run();
        FaultEdges.run();
        SumEdges.run();
        TreeEdges.run();
        ViewEdges.run();
        AgentEdges.run();
        RequestEdges.run();
        SetEdges.run();
        NoticeEdges.run();
        ManagerEdges.run();
        LineEdges.run();
        TextEdges.run();
        StatesTests.run();
        DeedTests.run();
        FaceTests.run();
        Doc.checkThatAllIsQuoted();
        LanguageTests.run();
        ReadmeTests.run();
        System.out.println("checks: " + Check.passed + " passed, " + Check.failed + " failed");
        if (Check.failed > 0 || Check.passed == 0) {
            System.exit(1);
        }
    }
}
