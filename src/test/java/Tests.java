/** Runs every test of the project; the first argument names the program's source. */
final class Tests {
    private Tests() {
    }

    public static void main(String[] args) {
        PromiseTests.runAll();
        BoundaryTextTests.runAll();
        BoundaryQuestionTests.runAll();
        BoundaryActionTests.runAll();
        BoundaryTickTests.runAll();
        BoundaryForesightTests.runAll();
        BoundaryScriptTests.runAll();
        RefusedCallsTests.runAll();
        LanguageTests.runAll(args.length > 0 ? args[0] : "src/main/java/PlacardWalkers.java");
        RoomTests.runAll();
        ModelTests.runAll();
        System.out.println(Checks.passes() + " passed, " + Checks.failures() + " failed");
        System.exit(Checks.failures() == 0 ? 0 : 1);
    }
}
