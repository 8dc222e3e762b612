/** Runs every test of the project; the exit code is 1 if one failed. */
public final class AllTests {
    private static final int PROMISES = 29;

    public static void main(String[] args) {
        Due due = new Due();
        new FaceTests(due).run();
        new AirTests(due).run();
        new RayTests(due).run();
        new PathTests(due).run();
        new StationTests(due).run();
        new BeaconTests(due).run();
        new LogTests(due).run();
        for (int n = 1; n <= PROMISES; n++) {
            due.note("a test of the promise " + n, due.tested(n) ? "is there" : "is missing", "is there");
        }
        due.promise(0);
        new ModelTests(due).run();
        System.out.println(due.passed() + " passed, " + due.failed() + " failed");
        if (due.failed() != 0) {
            System.exit(1);
        }
    }
}
