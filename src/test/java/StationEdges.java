/**
 * Boundary cases of stations, signals and contacts: promises 9, 11, 24 and 25. In the dark on 100 a leg of 5 places
 * takes 7, and the noise without light 3 more.
 */
final class StationEdges extends Edges {
    private static final int LOW = SkipRays.LOW;
    private static final int HIGH = SkipRays.HIGH;
    private static final int EVEN = SkipRays.EVEN;
    private static final int EAST = SkipRays.EAST;
    private static final int WEST = SkipRays.WEST;
    private static final int BOTH = SkipRays.BOTH;
    private static final int NO_SIGNAL = -1000;
    private static final int LEAST = Integer.MIN_VALUE;
    private static final int GREATEST = Integer.MAX_VALUE;

    StationEdges(Due due, int[] tests) {
        super(due, tests);
    }

    private static SkipRays strong() {
        return Scenes.two(80, 80);
    }

    // ---- promise 9: station

    void promise09PlacesThatAreThere() {
        SkipRays air = new SkipRays();
        due.is("at 0", air.station(0, 30, EVEN, WEST), 0);
        due.is("at 47", air.station(47, 30, EVEN, EAST), 1);
        due.is("at 4", air.station(4, 30, EVEN, WEST), 2);
        due.is("at 42", air.station(42, 30, EVEN, EAST), 3);
        due.is("47 to 4", air.signal(1, 2, 100), 20);
        due.is("42 to 47", air.signal(3, 1, 100), 20);
        due.is("4 to 47", air.signal(2, 1, 100), 20);
    }

    void promise09PlacesThatAreNot() {
        outside("at -1", Scenes::busy, air -> air.station(-1, 1, EVEN, EAST));
        outside("at 48", Scenes::busy, air -> air.station(48, 1, EVEN, EAST));
        outside("at least", Scenes::busy, air -> air.station(LEAST, 1, EVEN, EAST));
        outside("at greatest", Scenes::busy, air -> air.station(GREATEST, 1, EVEN, EAST));
    }

    void promise09PowersThatAreAllowed() {
        SkipRays air = new SkipRays();
        due.is("power 1", air.station(40, 1, EVEN, EAST), 0);
        due.is("power 80", air.station(40, 80, EVEN, EAST), 1);
        air.station(45, 1, EVEN, EAST);
        due.is("the signal of power 1", air.signal(0, 2, 100), NO_SIGNAL);
        due.is("the signal of power 80", air.signal(1, 2, 100), 70);
    }

    void promise09PowersThatAreNot() {
        refused("power 0", Scenes::busy, air -> air.station(0, 0, EVEN, EAST));
        refused("power 81", Scenes::busy, air -> air.station(0, 81, EVEN, EAST));
        refused("power -1", Scenes::busy, air -> air.station(0, -1, EVEN, EAST));
        refused("power least", Scenes::busy, air -> air.station(0, LEAST, EVEN, EAST));
        refused("power greatest", Scenes::busy, air -> air.station(0, GREATEST, EVEN, EAST));
    }

    void promise09AntennasThatAreNot() {
        refused("antenna -1", Scenes::busy, air -> air.station(0, 1, -1, EAST));
        refused("antenna 3", Scenes::busy, air -> air.station(0, 1, 3, EAST));
        refused("antenna least", Scenes::busy, air -> air.station(0, 1, LEAST, EAST));
        refused("antenna greatest", Scenes::busy, air -> air.station(0, 1, GREATEST, EAST));
    }

    void promise09HeadingsThatAreNot() {
        refused("heading -1", Scenes::busy, air -> air.station(0, 1, EVEN, -1));
        refused("heading 3", Scenes::busy, air -> air.station(0, 1, EVEN, 3));
        refused("heading least", Scenes::busy, air -> air.station(0, 1, EVEN, LEAST));
        refused("heading greatest", Scenes::busy, air -> air.station(0, 1, EVEN, GREATEST));
    }

    void promise09AntennasAndHeadingsThatAreThere() {
        SkipRays air = new SkipRays();
        int number = 0;
        for (int antenna = LOW; antenna <= EVEN; antenna++) {
            for (int heading = EAST; heading <= BOTH; heading++) {
                due.is("antenna " + antenna + ", heading " + heading, air.station(0, 1, antenna, heading), number);
                number++;
            }
        }
    }

    void promise09ThePlaceAheadOfTheRanges() {
        outside("at 48 without power", Scenes::busy, air -> air.station(48, 0, EVEN, EAST));
        outside("at -1, antenna 3", Scenes::busy, air -> air.station(-1, 1, 3, EAST));
        outside("at 48, heading 3", Scenes::busy, air -> air.station(48, 1, EVEN, 3));
    }

    void promise09AtMost12() {
        SkipRays air = new SkipRays();
        for (int n = 0; n < 12; n++) {
            due.is("station " + n, air.station(4 * n, 1 + n, n % 3, n / 4), n);
        }
        due.is("stations", air.count(0), 12);
        full("a 13th", Scenes::full, other -> other.station(0, 1, EVEN, EAST));
        due.is("the last one's score", air.score(11), 0);
    }

    void promise09AtMost12WithoutAnythingElse() {
        SkipRays air = new SkipRays();
        for (int n = 0; n < 12; n++) {
            air.station(0, 1, EVEN, EAST);
        }
        due.full("a 13th", () -> air.station(0, 1, EVEN, EAST));
        due.is("stations", air.count(0), 12);
        due.is("a beacon is none", air.beacon(0, 100, 1), 0);
    }

    void promise09SixBeaconsAreNoStations() {
        SkipRays air = new SkipRays();
        for (int n = 0; n < 6; n++) {
            air.beacon(0, 100, 1);
        }
        for (int n = 0; n < 12; n++) {
            due.is("station " + n, air.station(0, 1, EVEN, EAST), n);
        }
        due.full("a 13th", () -> air.station(0, 1, EVEN, EAST));
    }

    void promise09TheRangesAheadOfTheFullRow() {
        outside("a 13th at 48", Scenes::full, air -> air.station(48, 1, EVEN, EAST));
        outside("a 13th at -1 without power", Scenes::full, air -> air.station(-1, 0, EVEN, EAST));
        refused("a 13th without power", Scenes::full, air -> air.station(0, 0, EVEN, EAST));
        refused("a 13th, antenna 3", Scenes::full, air -> air.station(0, 1, 3, EAST));
        refused("a 13th, heading 3", Scenes::full, air -> air.station(0, 1, EVEN, 3));
    }

    void promise09BeaconsAreNoStations() {
        SkipRays air = new SkipRays();
        air.beacon(0, 100, 1);
        due.is("the first station", air.station(0, 1, EVEN, EAST), 0);
        due.is("stations", air.count(0), 1);
    }

    // ---- promise 24: signal

    private static int between(int from, int to, int power, int antenna, int heading, int frequency) {
        SkipRays air = new SkipRays();
        air.station(from, power, antenna, heading);
        air.station(to, 1, EVEN, BOTH);
        return air.signal(0, 1, frequency);
    }

    void promise24StationsThatAreNot() {
        outside("no station at all", Scenes::fresh, air -> air.signal(0, 1, 100));
        outside("-1", Scenes::busy, air -> air.signal(-1, 0, 100));
        outside("3 of 3", Scenes::busy, air -> air.signal(3, 0, 100));
        outside("to -1", Scenes::busy, air -> air.signal(0, -1, 100));
        outside("to 3 of 3", Scenes::busy, air -> air.signal(0, 3, 100));
        outside("12 of 12", Scenes::full, air -> air.signal(12, 0, 100));
        outside("to 12 of 12", Scenes::full, air -> air.signal(0, 12, 100));
        outside("least", Scenes::busy, air -> air.signal(LEAST, 0, 100));
        outside("to greatest", Scenes::busy, air -> air.signal(0, GREATEST, 100));
    }

    void promise24TheLastStation() {
        SkipRays air = Scenes.full();
        due.is("to 11 of 12", air.signal(0, 11, 100), 67);
        due.is("of 11 of 12", air.signal(11, 0, 100), 67);
    }

    void promise24FrequenciesThatAreAllowed() {
        SkipRays air = new SkipRays();
        air.sun(100);
        air.station(24, 80, EVEN, EAST);
        air.station(29, 80, EVEN, WEST);
        due.is("on 300, 20 * 40 / 300", air.signal(0, 1, 300), 71);
        SkipRays dark = strong();
        due.is("on 10, 5 legs of 1 place", dark.signal(0, 1, 10), 38);
        due.is("on 300", dark.signal(0, 1, 300), NO_SIGNAL);
    }

    void promise24FrequenciesThatAreNot() {
        refused("on 9", Scenes::busy, air -> air.signal(0, 1, 9));
        refused("on 301", Scenes::busy, air -> air.signal(0, 1, 301));
        refused("on 0", Scenes::busy, air -> air.signal(0, 1, 0));
        refused("on least", Scenes::busy, air -> air.signal(0, 1, LEAST));
        refused("on greatest", Scenes::busy, air -> air.signal(0, 1, GREATEST));
    }

    void promise24BothTheSame() {
        refused("0 and 0", Scenes::busy, air -> air.signal(0, 0, 100));
        refused("2 and 2", Scenes::busy, air -> air.signal(2, 2, 100));
        refused("0 and 0 on 9", Scenes::busy, air -> air.signal(0, 0, 9));
    }

    void promise24TheStationsAheadOfTheRest() {
        outside("3 and 3 of 3", Scenes::busy, air -> air.signal(3, 3, 100));
        outside("-1 and -1", Scenes::busy, air -> air.signal(-1, -1, 100));
        outside("3 on 9", Scenes::busy, air -> air.signal(3, 0, 9));
        outside("to 3 on 301", Scenes::busy, air -> air.signal(0, 3, 301));
    }

    void promise24BeginsBelow0() {
        due.is("power 7 less 8, HIGH, angle 1", between(40, 45, 7, HIGH, EAST, 100), NO_SIGNAL);
        due.is("power 8 less 8, HIGH, begins with 0", between(40, 45, 8, HIGH, EAST, 100), NO_SIGNAL);
        due.is("power 15 less 8", between(40, 45, 15, HIGH, EAST, 100), -3);
        due.is("power 14 less 8", between(40, 45, 14, HIGH, EAST, 100), NO_SIGNAL);
        due.is("power 19 less 20", between(40, 45, 19, EVEN, WEST, 100), NO_SIGNAL);
        due.is("power 2 less 3", between(40, 45, 2, EVEN, BOTH, 100), NO_SIGNAL);
    }

    /** The angles 2 and 3, 4 and 5 and so on go equally far: LOW is best by the lower, HIGH by the higher one. */
    void promise24GainsPerhapsBelow0() {
        int[] greatestFrequencies = {176, 159, 142, 126, 109, 92, 75, 58, 42};
        int[] lengths = {5, 4, 4, 3, 3, 2, 2, 1, 1};
        int[] lows = {8, 6, 6, 2, 2, -2, -2, -6, -6};
        int[] highs = {-8, -6, -4, -2, 0, 2, 4, 6, 8};
        for (int n = 0; n < lengths.length; n++) {
            int without = 50 - 2 - lengths[n] - 3;
            int to = 40 + lengths[n];
            String what = "up to the angle " + (n + 1);
            due.is("LOW " + what, between(40, to, 50, LOW, EAST, greatestFrequencies[n]), without + lows[n]);
            due.is("HIGH " + what, between(40, to, 50, HIGH, EAST, greatestFrequencies[n]), without + highs[n]);
            due.is("EVEN " + what, between(40, to, 50, EVEN, EAST, greatestFrequencies[n]), without);
        }
    }

    void promise24HeadingsTake0And20And3() {
        due.is("EAST to the east", between(40, 45, 27, EVEN, EAST, 100), 17);
        due.is("EAST to the west", between(45, 40, 27, EVEN, EAST, 100), -3);
        due.is("EAST to the west, one less", between(45, 40, 26, EVEN, EAST, 100), NO_SIGNAL);
        due.is("WEST to the west", between(45, 40, 27, EVEN, WEST, 100), 17);
        due.is("WEST to the east", between(40, 45, 27, EVEN, WEST, 100), -3);
        due.is("WEST to the east, one less", between(40, 45, 26, EVEN, WEST, 100), NO_SIGNAL);
        due.is("BOTH to the east", between(40, 45, 10, EVEN, BOTH, 100), -3);
        due.is("BOTH to the west", between(45, 40, 10, EVEN, BOTH, 100), -3);
        due.is("BOTH to the east, one less", between(40, 45, 9, EVEN, BOTH, 100), NO_SIGNAL);
        due.is("BOTH to the west, one less", between(45, 40, 9, EVEN, BOTH, 100), NO_SIGNAL);
    }

    /** More than 100, with which other rays begin at most, is no bound here: 80 and 8, HIGH. */
    void promise24ThePowerAndTheGainTogether() {
        due.is("80 and 8", between(40, 41, 80, HIGH, EAST, 42), 82);
        due.is("80 and 8, LOW", between(40, 45, 80, LOW, EAST, 100), 78);
    }

    void promise24NoneWithoutAPath() {
        due.is("no place of a leg", between(40, 41, 80, EVEN, BOTH, 100), NO_SIGNAL);
        due.is("all lost", between(40, 45, 80, EVEN, BOTH, 177), NO_SIGNAL);
        due.is("not lost", between(40, 45, 80, EVEN, BOTH, 176), 67);
        due.is("absorbed", between(40, 45, 6, EVEN, EAST, 100), NO_SIGNAL);
        due.is("not absorbed", between(40, 45, 7, EVEN, EAST, 100), -3);
    }

    void promise24BelowZeroIsASignal() {
        SkipRays air = Scenes.two(7, 7);
        air.noise(45, 40);
        due.is("0 less 43", air.signal(0, 1, 100), -43);
        due.is("0 less 3", air.signal(1, 0, 100), -3);
    }

    void promise24TheGreatestOfAllPaths() {
        due.is("EVEN, the angles 2 and 3 take 30", between(40, 4, 50, EVEN, EAST, 100), 17);
        due.is("LOW, angle 2", between(40, 4, 50, LOW, EAST, 100), 23);
        due.is("HIGH, angle 3", between(40, 4, 50, HIGH, EAST, 100), 13);
    }

    /** 13 is dark, 14 has light 1. */
    void promise24NoiseWithoutLightIs3More() {
        due.is("at 13", between(8, 13, 30, EVEN, EAST, 160), 20);
        due.is("at 14, D takes 2 * 40 / 160", between(9, 14, 30, EVEN, EAST, 160), 23);
        SkipRays air = new SkipRays();
        air.station(9, 30, EVEN, EAST);
        air.station(14, 30, EVEN, WEST);
        air.noise(14, 40);
        due.is("at 14 with noise 40", air.signal(0, 1, 160), -17);
        due.is("at 9", air.signal(1, 0, 160), 20);
        air.noise(9, 40);
        due.is("at 9 with noise 40", air.signal(1, 0, 160), -20);
    }

    void promise24StationsAtOnePlace() {
        due.is("by legs of 0 places", between(40, 40, 30, EVEN, EAST, 10), 25);
        due.is("the last frequency of these", between(40, 40, 30, EVEN, EAST, 18), 25);
        due.is("without a leg of 0 places", between(40, 40, 30, EVEN, EAST, 19), NO_SIGNAL);
        due.is("the weakest", between(40, 40, 2, EVEN, EAST, 10), -3);
        due.is("too weak", between(40, 40, 1, EVEN, EAST, 10), NO_SIGNAL);
    }

    void promise24RoundTheRingsRim() {
        due.is("47 to 4", between(47, 4, 30, EVEN, EAST, 100), 20);
        due.is("4 to 47", between(4, 47, 30, EVEN, WEST, 100), 20);
        due.is("43 to 0", between(43, 0, 30, EVEN, EAST, 100), 20);
        due.is("0 to 43", between(0, 43, 30, EVEN, WEST, 100), 20);
    }

    void promise24AQuestionChangesNothing() {
        asking("signal", Scenes::busy, air -> {
            for (int n = 0; n < 60; n++) {
                air.signal(n % 3, (n + 1) % 3, 10 + 4 * n);
            }
        });
    }

    // ---- promise 11: call

    void promise11StationsThatAreNot() {
        outside("no station at all", Scenes::fresh, air -> air.call(0, 1, 100, 0));
        outside("-1", Scenes::busy, air -> air.call(-1, 0, 100, 0));
        outside("3 of 3", Scenes::busy, air -> air.call(3, 0, 100, 0));
        outside("-1 is called", Scenes::busy, air -> air.call(0, -1, 100, 0));
        outside("3 of 3 is called", Scenes::busy, air -> air.call(0, 3, 100, 0));
        outside("least", Scenes::busy, air -> air.call(LEAST, 0, 100, 0));
        outside("greatest is called", Scenes::busy, air -> air.call(0, GREATEST, 100, 0));
    }

    void promise11FrequenciesThatAreAllowed() {
        SkipRays air = new SkipRays();
        air.sun(100);
        air.station(24, 80, EVEN, EAST);
        air.station(29, 80, EVEN, WEST);
        due.is("on 300", air.call(0, 1, 300, SkipRays.VOICE), true);
        due.is("its frequency", air.contactOf(0, 2), 300);
        SkipRays dark = strong();
        due.is("on 10", dark.call(0, 1, 10, SkipRays.VOICE), true);
        due.is("its frequency", dark.contactOf(0, 2), 10);
    }

    void promise11FrequenciesThatAreNot() {
        refused("on 9", Scenes::busy, air -> air.call(0, 1, 9, 0));
        refused("on 301", Scenes::busy, air -> air.call(0, 1, 301, 0));
        refused("on 0", Scenes::busy, air -> air.call(0, 1, 0, 0));
        refused("on least", Scenes::busy, air -> air.call(0, 1, LEAST, 0));
        refused("on greatest", Scenes::busy, air -> air.call(0, 1, GREATEST, 0));
    }

    void promise11ModesThatAreNot() {
        refused("mode -1", Scenes::busy, air -> air.call(0, 1, 100, -1));
        refused("mode 3", Scenes::busy, air -> air.call(0, 1, 100, 3));
        refused("mode least", Scenes::busy, air -> air.call(0, 1, 100, LEAST));
        refused("mode greatest", Scenes::busy, air -> air.call(0, 1, 100, GREATEST));
    }

    void promise11BothTheSame() {
        refused("0 and 0", Scenes::busy, air -> air.call(0, 0, 100, 0));
        refused("2 and 2", Scenes::busy, air -> air.call(2, 2, 100, 0));
    }

    void promise11TheStationsAheadOfTheRest() {
        outside("3 and 3 of 3", Scenes::busy, air -> air.call(3, 3, 100, 0));
        outside("-1 and -1", Scenes::busy, air -> air.call(-1, -1, 100, 0));
        outside("3 on 9", Scenes::busy, air -> air.call(3, 0, 9, 0));
        outside("3 is called, mode 3", Scenes::busy, air -> air.call(0, 3, 100, 3));
    }

    void promise11AtMost60() {
        SkipRays air = strong();
        for (int n = 0; n < 60; n++) {
            due.is("contact " + n, air.call(n % 2, 1 - n % 2, 100, n % 3), true);
        }
        due.is("contacts", air.count(2), 60);
        full("a 61st", Scenes::full, other -> other.call(0, 1, 100, 0));
    }

    void promise11FullAlsoIfThisWouldBeNone() {
        full("on 300", Scenes::full, air -> air.call(0, 1, 300, 0));
        full("at one place", Scenes::full, air -> air.call(0, 2, 100, 0));
    }

    void promise11TheRestAheadOfTheFullRow() {
        outside("12 of 12", Scenes::full, air -> air.call(12, 0, 100, 0));
        outside("-1 is called", Scenes::full, air -> air.call(0, -1, 100, 0));
        refused("on 9", Scenes::full, air -> air.call(0, 1, 9, 0));
        refused("on 301", Scenes::full, air -> air.call(0, 1, 301, 0));
        refused("mode 3", Scenes::full, air -> air.call(0, 1, 100, 3));
        refused("0 and 0", Scenes::full, air -> air.call(0, 0, 100, 0));
    }

    private void needs(int mode, int power) {
        due.is("both just enough", Scenes.two(power, power).call(0, 1, 100, mode), true);
        due.is("the one too weak", Scenes.two(power - 1, power).call(0, 1, 100, mode), false);
        due.is("the other one too weak", Scenes.two(power, power - 1).call(0, 1, 100, mode), false);
        due.is("called from there, the one too weak", Scenes.two(power - 1, 80).call(1, 0, 100, mode), false);
        due.is("called from there, the other one too weak", Scenes.two(80, power - 1).call(1, 0, 100, mode), false);
        due.is("called from there", Scenes.two(power, power).call(1, 0, 100, mode), true);
    }

    void promise11VoiceNeeds10() {
        due.is("the signal", Scenes.two(20, 20).signal(0, 1, 100), 10);
        needs(SkipRays.VOICE, 20);
    }

    void promise11KeyedNeeds4() {
        due.is("the signal", Scenes.two(14, 14).signal(0, 1, 100), 4);
        needs(SkipRays.KEYED, 14);
    }

    void promise11SlowNeedsMinus2() {
        due.is("the signal", Scenes.two(8, 8).signal(0, 1, 100), -2);
        needs(SkipRays.SLOW, 8);
    }

    void promise11NoneWithoutASignal() {
        due.is("lost", strong().call(0, 1, 177, SkipRays.SLOW), false);
        due.is("not lost", strong().call(0, 1, 176, SkipRays.SLOW), true);
        due.is("absorbed", Scenes.two(6, 80).call(0, 1, 100, SkipRays.SLOW), false);
    }

    void promise11WhatIsNoContactChangesNothing() {
        asking("calls that are none", Scenes::busy, air -> {
            due.is("on 300", air.call(0, 1, 300, SkipRays.SLOW), false);
            due.is("back on 300", air.call(1, 0, 300, SkipRays.SLOW), false);
        });
    }

    void promise11EachAtThePlaceOfTheOtherOne() {
        SkipRays air = strong();
        air.noise(45, 40);
        due.is("noise where the other one is, 70 less 40", air.call(0, 1, 100, SkipRays.VOICE), true);
        SkipRays weak = Scenes.two(60, 20);
        due.is("just enough", weak.call(0, 1, 100, SkipRays.VOICE), true);
        weak.noise(45, 40);
        due.is("noise at 45 takes from the signal of 0", weak.call(0, 1, 100, SkipRays.VOICE), true);
        weak.noise(45, 0);
        weak.noise(40, 1);
        due.is("noise at 40 takes from the signal of 1", weak.call(0, 1, 100, SkipRays.VOICE), false);
    }

    void promise11StationsAtOnePlace() {
        SkipRays air = new SkipRays();
        air.station(40, 15, EVEN, EAST);
        air.station(40, 18, EVEN, BOTH);
        due.is("just enough", air.call(0, 1, 10, SkipRays.VOICE), true);
        due.is("on a frequency that is not bent", air.call(0, 1, 177, SkipRays.SLOW), false);
    }

    // ---- promise 25: contactOf

    void promise25ContactsThatAreNot() {
        outside("0 of none", Scenes::fresh, air -> air.contactOf(0, 0));
        outside("0 of none, two stations", StationEdges::strong, air -> air.contactOf(0, 0));
        outside("-1", Scenes::busy, air -> air.contactOf(-1, 0));
        outside("behind the last one", Scenes::busy, air -> air.contactOf(air.count(2), 0));
        outside("60 of 60", Scenes::full, air -> air.contactOf(60, 0));
        outside("-1 of 60", Scenes::full, air -> air.contactOf(-1, 0));
        outside("least", Scenes::busy, air -> air.contactOf(LEAST, 0));
        outside("greatest", Scenes::busy, air -> air.contactOf(GREATEST, 0));
    }

    void promise25TheFirstAndTheLastOfAll() {
        SkipRays air = Scenes.full();
        int[] first = {0, 1, 100, SkipRays.VOICE, 0};
        int[] last = {11, 0, 100, SkipRays.VOICE, 0};
        for (int what = 0; what <= 4; what++) {
            due.is("the first one's " + what, air.contactOf(0, what), first[what]);
            due.is("the last one's " + what, air.contactOf(59, what), last[what]);
        }
    }

    void promise25WhatIs0To4() {
        SkipRays air = strong();
        air.pass(3);
        air.call(1, 0, 101, SkipRays.SLOW);
        int[] wants = {1, 0, 101, SkipRays.SLOW, 3};
        for (int what = 0; what <= 4; what++) {
            due.is("what " + what, air.contactOf(0, what), wants[what]);
        }
        refused("what -1", Scenes::busy, other -> other.contactOf(0, -1));
        refused("what 5", Scenes::busy, other -> other.contactOf(0, 5));
        refused("what least", Scenes::busy, other -> other.contactOf(0, LEAST));
        refused("what greatest", Scenes::busy, other -> other.contactOf(0, GREATEST));
    }

    void promise25TheContactAheadOfWhat() {
        outside("60 of 60, what 5", Scenes::full, air -> air.contactOf(60, 5));
        outside("-1, what -1", Scenes::busy, air -> air.contactOf(-1, -1));
        outside("0 of none, what 5", Scenes::fresh, air -> air.contactOf(0, 5));
    }

    void promise25WhatWasNoneHasNoNumber() {
        SkipRays air = strong();
        air.call(0, 1, 177, SkipRays.SLOW);
        due.outside("0 of none", () -> air.contactOf(0, 0));
        air.call(1, 0, 176, SkipRays.SLOW);
        due.is("0 is the first one that is", air.contactOf(0, 0), 1);
        due.outside("1 of one", () -> air.contactOf(1, 0));
    }

    void promise25InTheLastHour() {
        SkipRays air = Scenes.at(Scenes.LAST_HOUR);
        air.station(40, 80, EVEN, EAST);
        air.station(45, 80, EVEN, WEST);
        due.is("a contact at 5000", air.call(0, 1, 100, SkipRays.SLOW), true);
        due.is("its hour", air.contactOf(0, 4), 5000);
    }

    void promise25AQuestionChangesNothing() {
        asking("contactOf", Scenes::busy, air -> {
            for (int n = 0; n < 15; n++) {
                air.contactOf(n % 3, n / 3);
            }
        });
    }
}
