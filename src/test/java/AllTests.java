/** Runs every test of the project; the exit code is 1 if one failed. */
public final class AllTests {
    private static final int PROMISES = 29;

    public static void main(String[] args) {
        Due due = new Due();
        new FaceTests(due).run();
        new AirTests(due).run();
        new RayTests(due).run();
        new PathTests(due).run();
        new StationTests(due).run();
        new BeaconTests(due).run();
        new LogTests(due).run();
        for (int n = 1; n <= PROMISES; n++) {
            due.note("a test of the promise " + n, due.tested(n) ? "is there" : "is missing", "is there");
        }
        edges(due);
        due.promise(0);
        new ReadmeTests(due).run();
        new ModelTests(due).run();
        System.out.println(due.passed() + " passed, " + due.failed() + " failed");
        if (due.failed() != 0) {
            System.exit(1);
        }
    }

    private static void edges(Due due) {
        int[] tests = new int[PROMISES + 1];
        new AirEdges(due, tests).run();
        new LightEdges(due, tests).run();
        new RayEdges(due, tests).run();
        new PathEdges(due, tests).run();
        new StationEdges(due, tests).run();
        new BeaconEdges(due, tests).run();
        new LogEdges(due, tests).run();
        int all = 0;
        for (int n = 1; n <= PROMISES; n++) {
            due.is("a test of boundary cases of the promise " + n, tests[n] > 0, true);
            all += tests[n];
        }
        System.out.println(all + " tests of boundary cases");
    }
}
