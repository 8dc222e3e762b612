/** Beacons and forecasts: promises 10, 13 and 28. */
final class BeaconTests {
    private final Due due;

    BeaconTests(Due due) {
        this.due = due;
    }

    void run() {
        due.promise(10);
        numbers();
        beaconRefusals();
        due.promise(13);
        heard();
        heardHere();
        bits();
        listenRefusals();
        due.promise(28);
        rightForecasts();
        wrongByStorm();
        wrongByFlare();
        wrongByCloud();
        rightAllTheSame();
        rightAtAnotherHour();
        madeByListeningAlone();
    }

    private void numbers() {
        SkipRays air = new SkipRays();
        for (int n = 0; n < 6; n++) {
            due.is("beacon " + n, air.beacon(n, 10 + n, 1 + n), n);
        }
        due.full("a 7th", () -> air.beacon(0, 10, 1));
        due.outside("a 7th nowhere", () -> air.beacon(48, 10, 1));
        due.refused("a 7th without power", () -> air.beacon(0, 10, 0));
        due.is("beacons", air.count(1), 6);
        due.is("stations", air.count(0), 0);
    }

    private void beaconRefusals() {
        SkipRays air = new SkipRays();
        due.outside("place -1", () -> air.beacon(-1, 10, 1));
        due.outside("place 48", () -> air.beacon(48, 10, 1));
        due.outside("place 48, the place first", () -> air.beacon(48, 9, 0));
        due.refused("frequency 9", () -> air.beacon(0, 9, 1));
        due.refused("frequency 301", () -> air.beacon(0, 301, 1));
        due.refused("power 0", () -> air.beacon(0, 10, 0));
        due.refused("power 81", () -> air.beacon(0, 10, 81));
        due.is("beacons after refusals", air.count(1), 0);
        due.is("place 47, frequency 300, power 80", air.beacon(47, 300, 80), 0);
        due.is("place 0, frequency 10, power 1", air.beacon(0, 10, 1), 1);
    }

    private static int listened(int place, int frequency, int power, int at) {
        SkipRays air = new SkipRays();
        air.beacon(place, frequency, power);
        return air.listen(at);
    }

    /** The heading BOTH takes 3, a leg of 5 places 7, the dark place's noise 3. */
    private void heard() {
        due.is("5 places east, power 13", listened(40, 100, 13, 45), 1);
        due.is("5 places east, power 12", listened(40, 100, 12, 45), 0);
        due.is("5 places west, power 13", listened(45, 100, 13, 40), 1);
        due.is("5 places west, power 12", listened(45, 100, 12, 40), 0);
        due.is("1 place, power 80", listened(45, 100, 80, 44), 0);
        SkipRays air = new SkipRays();
        air.beacon(40, 100, 20);
        air.noise(45, 7);
        due.is("with as much noise as it bears", air.listen(45), 1);
        air.noise(45, 8);
        due.is("with more noise", air.listen(45), 0);
    }

    private void heardHere() {
        due.is("at its place, power 8", listened(40, 10, 8, 40), 1);
        due.is("at its place, power 7", listened(40, 10, 7, 40), 0);
        due.is("at its place, power 2", listened(40, 10, 2, 40), 0);
        due.is("at its place, on 100", listened(40, 100, 80, 40), 0);
    }

    private void bits() {
        SkipRays air = new SkipRays();
        due.is("no beacon", air.listen(0), 0);
        air.beacon(40, 100, 13);
        air.beacon(40, 100, 12);
        air.beacon(2, 100, 13);
        air.beacon(45, 10, 13);
        air.beacon(2, 200, 80);
        air.beacon(35, 100, 80);
        due.is("at 45", air.listen(45), 1 + 4 + 8 + 32);
        due.is("at 30", air.listen(30) & 31, 0);
        due.is("at 7", air.listen(7) & 31, 4);
    }

    private void listenRefusals() {
        SkipRays air = new SkipRays();
        air.beacon(0, 10, 80);
        due.outside("place -1", () -> air.listen(-1));
        due.outside("place 48", () -> air.listen(48));
        due.is("forecasts after refusals", air.forecasts(false), 0);
    }

    private void forecasts(SkipRays air, int right, int made) {
        due.is("right forecasts", air.forecasts(true), right);
        due.is("forecasts", air.forecasts(false), made);
    }

    private void rightForecasts() {
        SkipRays air = new SkipRays();
        air.listen(45);
        forecasts(air, 0, 0);
        air.beacon(40, 100, 13);
        air.listen(45);
        forecasts(air, 1, 1);
        air.beacon(40, 100, 12);
        air.listen(45);
        forecasts(air, 3, 3);
    }

    private void wrongByStorm() {
        SkipRays air = new SkipRays();
        air.beacon(40, 100, 13);
        air.beacon(40, 100, 12);
        air.storm(20, 1);
        due.is("lost in the storm", air.listen(45), 0);
        forecasts(air, 1, 2);
        air.pass(1);
        due.is("after the storm", air.listen(45), 1);
        forecasts(air, 3, 4);
    }

    /** At 24, on 80, a leg of 0 places takes 14; with a flare of 1 it takes 15. */
    private void wrongByFlare() {
        SkipRays air = new SkipRays();
        air.beacon(24, 80, 17);
        due.is("without a flare", air.listen(24), 1);
        air.flare(1);
        due.is("with a flare", air.listen(24), 0);
        forecasts(air, 1, 2);
    }

    private void wrongByCloud() {
        SkipRays air = new SkipRays();
        air.beacon(40, 100, 80);
        due.is("without a cloud", air.listen(42), 0);
        air.cloud(41, 90, 1);
        due.is("with a cloud", air.listen(42), 1);
        forecasts(air, 1, 2);
        air.pass(1);
        due.is("when it is over", air.listen(42), 0);
        forecasts(air, 2, 3);
    }

    /** The sun, the hour, the noise and the sea are in the forecast as they are. */
    private void rightAllTheSame() {
        SkipRays air = new SkipRays();
        air.beacon(40, 200, 13);
        air.storm(1, 1);
        due.is("the sun at 50", air.listen(45), 0);
        air.sun(100);
        due.is("the sun at 100", air.listen(45), 1);
        forecasts(air, 2, 2);
        air.pass(12);
        due.is("at noon", air.listen(45), 1);
        air.sun(0);
        due.is("without sun", air.listen(45), 0);
        air.sun(100);
        air.noise(45, 40);
        due.is("with noise", air.listen(45), 0);
        forecasts(air, 5, 5);
        SkipRays wet = new SkipRays();
        wet.beacon(40, 100, 26);
        due.is("by land", wet.listen(2), 1);
        wet.noise(2, 3);
        due.is("by land, with noise", wet.listen(2), 0);
        wet.sea(45, true);
        due.is("by sea, with noise", wet.listen(2), 1);
        forecasts(wet, 3, 3);
    }

    private void rightAtAnotherHour() {
        SkipRays air = new SkipRays();
        air.beacon(40, 250, 13);
        air.sun(100);
        due.is("at night", air.listen(45), 0);
        air.pass(12);
        due.is("by day", air.listen(45), 1);
        air.pass(12);
        due.is("at night again", air.listen(45), 0);
        forecasts(air, 3, 3);
    }

    private void madeByListeningAlone() {
        SkipRays air = new SkipRays();
        air.beacon(40, 100, 13);
        air.station(40, 30, SkipRays.EVEN, SkipRays.EAST);
        air.station(45, 30, SkipRays.EVEN, SkipRays.EAST);
        air.signal(0, 1, 100);
        air.call(0, 1, 100, 0);
        air.paths(40, 45, 100, 20);
        forecasts(air, 0, 0);
    }
}
