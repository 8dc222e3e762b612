/** The example of README.md, call by call: who changes the one changes the other. */
final class ReadmeTests {
    private final Due due;
    private final SkipRays air = new SkipRays();

    ReadmeTests(Due due) {
        this.due = due;
    }

    void run() {
        stationsCallsLogs();
        raysPaths();
        beaconsForecastsTheAir();
    }

    private void stationsCallsLogs() {
        int mine = air.station(40, 30, SkipRays.EVEN, SkipRays.EAST);
        int theirs = air.station(45, 30, SkipRays.EVEN, SkipRays.WEST);
        due.is("README's signal", air.signal(mine, theirs, 100), 20);
        due.is("README's call", air.call(mine, theirs, 100, SkipRays.VOICE), true);
        due.is("README's first entry", air.log(mine, theirs, 100), 0);
        due.is("README's second entry", air.log(theirs, mine, 100), 1);
        due.is("README's score", air.score(mine), 1);
    }

    private void raysPaths() {
        due.is("README's landing", air.landing(40, true, 1, 100, 1), 45);
        due.is("README's paths", air.paths(40, 45, 100, 40), 1);
        due.is("README's delay", air.path(40, 45, 100, 40, 0, 5), 55);
        due.is("README's explanation", air.explain(40, 45, 100, 40, 60), 0);
        due.is("README's usable frequency", air.usable(40, 45, 40, true), 170);
        due.is("README's skipped places", air.skipped(40, true, 100), 2);
    }

    private void beaconsForecastsTheAir() {
        due.is("README's beacon", air.beacon(40, 100, 30), 0);
        due.is("README's beacons that are heard", air.listen(45), 1);
        air.storm(30, 6);
        due.is("README's beacons by the storm", air.listen(45), 0);
        due.is("README's forecasts", air.forecasts(false), 2);
        due.is("README's right forecasts", air.forecasts(true), 1);
        due.is("README's hour", air.pass(6), 6);
        due.is("README's beacons behind the storm", air.listen(45), 1);
    }
}
