/** Runs every test of the project; the first argument names the program's source. */
final class Tests {
    private static final long MOST_MILLISECONDS = 300_000;

    private Tests() {
    }

    /** A call that does not end fails too. */
    private static void endInTime() {
        Thread watch = new Thread(() -> {
            try {
                Thread.sleep(MOST_MILLISECONDS);
            } catch (InterruptedException e) {
                return;
            }
            System.out.println("the tests do not end");
            Runtime.getRuntime().halt(1);
        });
        watch.setDaemon(true);
        watch.start();
    }

    public static void main(String[] args) {
        endInTime();
        PromiseTests.runAll();
        BoundaryTextTests.runAll();
        BoundaryQuestionTests.runAll();
        BoundaryActionTests.runAll();
        BoundaryTickTests.runAll();
        BoundaryForesightTests.runAll();
        BoundaryScriptTests.runAll();
        RefusedCallsTests.runAll();
        String source = args.length > 0 ? args[0] : "src/main/java/PlacardWalkers.java";
        LanguageTests.runAll(source);
        CallTests.runAll(source);
        ReadmeTests.runAll(source);
        RoomTests.runAll();
        ModelTests.runAll();
        System.out.println(Checks.passes() + " passed, " + Checks.failures() + " failed");
        System.exit(Checks.failures() == 0 ? 0 : 1);
    }
}
