/**
 * Boundary cases of beacons and forecasts: promises 10, 13 and 28. In the dark on 100 a beacon's heading takes 3,
 * a leg of 5 places 7, and the noise without light 3.
 */
final class BeaconEdges extends Edges {
    private static final int LEAST = Integer.MIN_VALUE;
    private static final int GREATEST = Integer.MAX_VALUE;

    BeaconEdges(Due due, int[] tests) {
        super(due, tests);
    }

    private static SkipRays one(int place, int frequency, int power) {
        SkipRays air = new SkipRays();
        air.beacon(place, frequency, power);
        return air;
    }

    private void forecasts(SkipRays air, int right, int made) {
        due.is("right forecasts", air.forecasts(true), right);
        due.is("forecasts", air.forecasts(false), made);
    }

    // ---- promise 10: beacon

    void promise10PlacesThatAreThere() {
        due.is("at 0, heard at 5", one(0, 100, 13).listen(5), 1);
        due.is("at 0, heard at 43", one(0, 100, 13).listen(43), 1);
        due.is("at 47, heard at 42", one(47, 100, 13).listen(42), 1);
        due.is("at 47, heard at 4", one(47, 100, 13).listen(4), 1);
    }

    void promise10PlacesThatAreNot() {
        outside("at -1", Scenes::busy, air -> air.beacon(-1, 100, 1));
        outside("at 48", Scenes::busy, air -> air.beacon(48, 100, 1));
        outside("at least", Scenes::busy, air -> air.beacon(LEAST, 100, 1));
        outside("at greatest", Scenes::busy, air -> air.beacon(GREATEST, 100, 1));
    }

    void promise10FrequenciesThatAreAllowed() {
        SkipRays air = new SkipRays();
        air.sun(100);
        due.is("on 10", air.beacon(40, 10, 8), 0);
        due.is("on 300", air.beacon(24, 300, 12), 1);
        due.is("heard at its place", air.listen(40), 1);
        due.is("heard at 29", air.listen(29), 2);
    }

    void promise10FrequenciesThatAreNot() {
        refused("on 9", Scenes::busy, air -> air.beacon(0, 9, 1));
        refused("on 301", Scenes::busy, air -> air.beacon(0, 301, 1));
        refused("on 0", Scenes::busy, air -> air.beacon(0, 0, 1));
        refused("on least", Scenes::busy, air -> air.beacon(0, LEAST, 1));
        refused("on greatest", Scenes::busy, air -> air.beacon(0, GREATEST, 1));
    }

    void promise10PowersThatAreAllowed() {
        SkipRays air = new SkipRays();
        due.is("power 1", air.beacon(40, 100, 1), 0);
        due.is("power 80", air.beacon(40, 100, 80), 1);
        due.is("those that are heard", air.listen(45), 2);
        air.noise(45, 40);
        due.is("power 80, with noise 40", air.listen(45), 2);
    }

    void promise10PowersThatAreNot() {
        refused("power 0", Scenes::busy, air -> air.beacon(0, 100, 0));
        refused("power 81", Scenes::busy, air -> air.beacon(0, 100, 81));
        refused("power -1", Scenes::busy, air -> air.beacon(0, 100, -1));
        refused("power least", Scenes::busy, air -> air.beacon(0, 100, LEAST));
        refused("power greatest", Scenes::busy, air -> air.beacon(0, 100, GREATEST));
    }

    void promise10ThePlaceAheadOfTheRanges() {
        outside("at 48 on 9", Scenes::busy, air -> air.beacon(48, 9, 1));
        outside("at -1 without power", Scenes::busy, air -> air.beacon(-1, 100, 0));
        outside("at 48 on 301, power 81", Scenes::busy, air -> air.beacon(48, 301, 81));
    }

    void promise10AtMost6() {
        SkipRays air = new SkipRays();
        for (int n = 0; n < 6; n++) {
            due.is("beacon " + n, air.beacon(8 * n, 10 + 58 * n, 1 + n), n);
        }
        due.is("beacons", air.count(1), 6);
        full("a 7th", Scenes::full, other -> other.beacon(0, 100, 1));
    }

    void promise10AtMost6WithoutAnythingElse() {
        SkipRays air = new SkipRays();
        for (int n = 0; n < 6; n++) {
            air.beacon(0, 100, 1);
        }
        due.full("a 7th", () -> air.beacon(0, 100, 1));
        due.is("beacons", air.count(1), 6);
    }

    void promise10TwelveStationsAreNoBeacons() {
        SkipRays air = new SkipRays();
        for (int n = 0; n < 12; n++) {
            air.station(0, 1, SkipRays.EVEN, SkipRays.EAST);
        }
        for (int n = 0; n < 6; n++) {
            due.is("beacon " + n, air.beacon(0, 100, 1), n);
        }
        due.full("a 7th", () -> air.beacon(0, 100, 1));
    }

    void promise10TheRestAheadOfTheFullRow() {
        outside("a 7th at 48", Scenes::full, air -> air.beacon(48, 100, 1));
        outside("a 7th at -1 on 9", Scenes::full, air -> air.beacon(-1, 9, 1));
        refused("a 7th on 9", Scenes::full, air -> air.beacon(0, 9, 1));
        refused("a 7th on 301", Scenes::full, air -> air.beacon(0, 301, 1));
        refused("a 7th without power", Scenes::full, air -> air.beacon(0, 100, 0));
        refused("a 7th, power 81", Scenes::full, air -> air.beacon(0, 100, 81));
    }

    void promise10StationsAreNoBeacons() {
        SkipRays air = Scenes.two(80, 80);
        due.is("the first beacon", air.beacon(0, 100, 1), 0);
        due.is("beacons", air.count(1), 1);
        due.is("stations", air.count(0), 2);
    }

    void promise10MoreBeaconsAtOnePlaceOnOneFrequency() {
        SkipRays air = one(40, 100, 13);
        due.is("the same once more", air.beacon(40, 100, 13), 1);
        due.is("both are heard", air.listen(45), 3);
    }

    // ---- promise 13: listen

    void promise13PlacesThatAreThere() {
        SkipRays air = one(5, 100, 13);
        air.beacon(42, 100, 13);
        due.is("at 0", air.listen(0), 1);
        due.is("at 47", air.listen(47), 2);
    }

    void promise13PlacesThatAreNot() {
        outside("at -1", Scenes::busy, air -> air.listen(-1));
        outside("at 48", Scenes::busy, air -> air.listen(48));
        outside("at least", Scenes::busy, air -> air.listen(LEAST));
        outside("at greatest", Scenes::busy, air -> air.listen(GREATEST));
        outside("at 48, no beacon", Scenes::fresh, air -> air.listen(48));
        outside("at -1, six beacons", Scenes::full, air -> air.listen(-1));
    }

    void promise13WithoutBeacons() {
        SkipRays air = new SkipRays();
        due.is("at 0", air.listen(0), 0);
        due.is("at 47", air.listen(47), 0);
        due.is("by stations alone", Scenes.two(80, 80).listen(45), 0);
    }

    void promise13ASignalOf0OrMore() {
        due.is("0", one(40, 100, 13).listen(45), 1);
        due.is("-1", one(40, 100, 12).listen(45), 0);
        due.is("0 to the west", one(45, 100, 13).listen(40), 1);
        due.is("-1 to the west", one(45, 100, 12).listen(40), 0);
    }

    void promise13NoiseMakesItMinus1() {
        SkipRays air = one(40, 100, 20);
        air.noise(45, 7);
        due.is("0", air.listen(45), 1);
        air.noise(45, 8);
        due.is("-1", air.listen(45), 0);
    }

    void promise13NotHeardWithoutAPath() {
        due.is("no place of a leg", one(40, 100, 80).listen(41), 0);
        due.is("lost", one(40, 177, 80).listen(45), 0);
        due.is("not lost", one(40, 176, 80).listen(45), 1);
        due.is("begins below 0", one(40, 100, 2).listen(45), 0);
    }

    void promise13AlsoOneAtThisPlace() {
        due.is("0", one(40, 10, 8).listen(40), 1);
        due.is("-1", one(40, 10, 7).listen(40), 0);
        due.is("without a leg of 0 places", one(40, 100, 80).listen(40), 0);
    }

    void promise13TheFirstAndTheLastBit() {
        SkipRays air = new SkipRays();
        for (int n = 0; n < 6; n++) {
            air.beacon(n == 0 ? 40 : n == 5 ? 2 : 24, n == 0 || n == 5 ? 100 : 300, 13);
        }
        due.is("0 and 5", air.listen(45), 33);
        due.is("5 alone", air.listen(7), 32);
        due.is("none", air.listen(41), 0);
    }

    void promise13AllSix() {
        due.is("all", Scenes.full().listen(45), 63);
        due.is("none", Scenes.full().listen(41), 0);
    }

    void promise13RoundTheRingsRim() {
        due.is("46 to 3", one(46, 100, 13).listen(3), 1);
        due.is("3 to 46", one(3, 100, 13).listen(46), 1);
    }

    /** At 14 with light 1 the noise is not 3 more. */
    void promise13ByLightWithoutThe3More() {
        due.is("power 10 at 14", one(9, 160, 10).listen(14), 1);
        due.is("power 9 at 14", one(9, 160, 9).listen(14), 0);
        due.is("power 12 at 13", one(8, 160, 12).listen(13), 0);
        due.is("power 13 at 13", one(8, 160, 13).listen(13), 1);
    }

    void promise13NothingButForecastsChanges() {
        SkipRays air = Scenes.full();
        due.is("all", air.listen(45), 63);
        forecasts(air, 6, 6);
        due.is("the hour", air.hour(), 0);
        due.is("contacts", air.count(2), 60);
        due.is("entries", air.count(3), 80);
        due.is("all once more", air.listen(45), 63);
    }

    // ---- promise 28: forecasts

    void promise28NoneAtFirst() {
        forecasts(new SkipRays(), 0, 0);
        forecasts(one(40, 100, 80), 0, 0);
    }

    void promise28NoneWithoutBeacons() {
        SkipRays air = Scenes.two(80, 80);
        air.listen(45);
        air.listen(0);
        forecasts(air, 0, 0);
    }

    void promise28OneForEachBeacon() {
        SkipRays air = Scenes.full();
        air.listen(45);
        forecasts(air, 6, 6);
        air.listen(41);
        forecasts(air, 12, 12);
    }

    void promise28NoneByARefusedListen() {
        SkipRays air = one(40, 100, 13);
        due.outside("at 48", () -> air.listen(48));
        due.outside("at -1", () -> air.listen(-1));
        forecasts(air, 0, 0);
    }

    void promise28NoneByQuestionsAndCalls() {
        SkipRays air = Scenes.two(80, 80);
        air.beacon(40, 100, 80);
        air.call(0, 1, 100, 0);
        air.signal(0, 1, 100);
        air.paths(40, 45, 100, 80);
        air.pass(1);
        forecasts(air, 0, 0);
    }

    void promise28RightAlsoIfNotHeard() {
        SkipRays air = one(40, 100, 12);
        due.is("not heard", air.listen(45), 0);
        forecasts(air, 1, 1);
    }

    /** F in the dark is 42 less the storm: 24 * 42 / 10 is 100, 23 * 42 / 10 is 96. */
    void promise28WrongByAStormThatIsStrongEnough() {
        SkipRays air = one(40, 100, 13);
        air.storm(18, 72);
        due.is("in a storm of 18", air.listen(45), 1);
        forecasts(air, 1, 1);
        air.storm(19, 72);
        due.is("in a storm of 19", air.listen(45), 0);
        forecasts(air, 1, 2);
    }

    void promise28WrongInTheLastHourOfAStormAlone() {
        SkipRays air = one(40, 100, 13);
        air.storm(60, 2);
        air.pass(1);
        due.is("in its last hour", air.listen(45), 0);
        forecasts(air, 0, 1);
        air.pass(1);
        due.is("an hour later", air.listen(45), 1);
        forecasts(air, 1, 2);
    }

    void promise28WrongInTheLastHourOfACloudAlone() {
        SkipRays air = one(40, 100, 80);
        air.cloud(41, 90, 2);
        air.pass(1);
        due.is("heard by the cloud, in its last hour", air.listen(42), 1);
        forecasts(air, 0, 1);
        air.pass(1);
        due.is("an hour later", air.listen(42), 0);
        forecasts(air, 1, 2);
    }

    /** At 24, on 80, a leg of 0 places takes 2, and twice D, 12 and the flare, times 40 / 80. */
    void promise28WrongByAFlareOf1() {
        SkipRays air = one(24, 80, 17);
        due.is("without a flare", air.listen(24), 1);
        forecasts(air, 1, 1);
        air.flare(1);
        due.is("with a flare of 1", air.listen(24), 0);
        forecasts(air, 1, 2);
    }

    /** An hour later the light of 22 is what that of 24 is at first. */
    void promise28RightWhenAFlareIsOver() {
        SkipRays air = one(22, 80, 17);
        air.flare(1);
        air.pass(1);
        due.is("a flare of 1, an hour later", air.listen(22), 1);
        forecasts(air, 1, 1);
        air.flare(2);
        due.is("a flare of 2", air.listen(22), 0);
        forecasts(air, 1, 2);
    }

    void promise28AFlareInTheDarkIsNone() {
        SkipRays air = one(40, 100, 13);
        air.flare(80);
        due.is("in the dark", air.listen(45), 1);
        forecasts(air, 1, 1);
    }

    void promise28AllElseIsAsItIs() {
        SkipRays air = one(40, 100, 26);
        due.is("two legs over land", air.listen(2), 1);
        air.noise(2, 1);
        due.is("with noise", air.listen(2), 0);
        air.sea(45, true);
        due.is("over sea", air.listen(2), 1);
        air.sun(0);
        due.is("without sun, 30 * 42 / 10", air.listen(2), 1);
        air.pass(12);
        due.is("at noon, D takes", air.listen(2), 0);
        forecasts(air, 5, 5);
    }

    void promise28TheSunAndTheHourInAStormToo() {
        SkipRays air = one(40, 125, 13);
        air.storm(1, 72);
        due.is("41 * 42 / 10 is 172", air.listen(45), 1);
        air.sun(0);
        due.is("29 * 42 / 10 is 121, without the storm 126", air.listen(45), 0);
        forecasts(air, 1, 2);
        air.sun(50);
        due.is("172 again", air.listen(45), 1);
        forecasts(air, 2, 3);
    }

    /** In the dark 55 * 42 / 10 is 231, with the sun at 50 it is 176; by light the storm of 1 is no matter. */
    void promise28TheLevelOfTheSunIsInTheForecast() {
        SkipRays air = one(40, 200, 13);
        due.is("the sun at 50", air.listen(45), 0);
        air.sun(100);
        due.is("the sun at 100", air.listen(45), 1);
        forecasts(air, 2, 2);
        air.storm(10, 1);
        due.is("the sun at 100, in a storm", air.listen(45), 0);
        forecasts(air, 2, 3);
    }

    void promise28EachBeaconByItself() {
        SkipRays air = one(40, 100, 40);
        air.beacon(40, 20, 60);
        air.beacon(40, 177, 80);
        air.storm(60, 1);
        air.listen(45);
        forecasts(air, 2, 3);
    }

    void promise28TheForecastChangesNoStorm() {
        SkipRays air = one(40, 100, 13);
        air.storm(60, 5);
        air.cloud(0, 9, 5);
        air.flare(9);
        air.listen(45);
        due.is("F", air.density(0, SkipRays.F), 5);
        due.is("E", air.density(0, SkipRays.E), 19);
        due.is("the flare", air.flare(1), 9);
    }

    void promise28AQuestionChangesNothing() {
        asking("forecasts", Scenes::busy, air -> {
            air.forecasts(true);
            air.forecasts(false);
            air.forecasts(true);
        });
    }
}
