/** Stations, their signals and contacts: promises 9, 11, 24 and 25. */
final class StationTests {
    private static final int NO_SIGNAL = -1000;

    private final Due due;

    StationTests(Due due) {
        this.due = due;
    }

    void run() {
        due.promise(9);
        numbers();
        stationRefusals();
        due.promise(24);
        headings();
        antennas();
        beginningBelowZero();
        strongestPath();
        noise();
        onePlace();
        signalRefusals();
        due.promise(11);
        modes();
        bothWays();
        callRefusals();
        fullOfContacts();
        due.promise(25);
        contacts();
        contactRefusals();
    }

    private void numbers() {
        SkipRays air = new SkipRays();
        for (int n = 0; n < 12; n++) {
            due.is("station " + n, air.station(n * 4, n + 1, n % 3, n / 4), n);
        }
        due.is("stations", air.count(0), 12);
        due.full("a 13th", () -> air.station(0, 1, 0, 0));
        due.outside("a 13th nowhere", () -> air.station(48, 1, 0, 0));
        due.refused("a 13th without power", () -> air.station(0, 0, 0, 0));
        due.is("stations after that", air.count(0), 12);
    }

    private void stationRefusals() {
        SkipRays air = new SkipRays();
        due.outside("place -1", () -> air.station(-1, 1, 0, 0));
        due.outside("place 48", () -> air.station(48, 1, 0, 0));
        due.outside("place 48, the place first", () -> air.station(48, 0, 3, 3));
        due.refused("power 0", () -> air.station(0, 0, 0, 0));
        due.refused("power 81", () -> air.station(0, 81, 0, 0));
        due.refused("antenna -1", () -> air.station(0, 1, -1, 0));
        due.refused("antenna 3", () -> air.station(0, 1, 3, 0));
        due.refused("heading -1", () -> air.station(0, 1, 0, -1));
        due.refused("heading 3", () -> air.station(0, 1, 0, 3));
        due.is("stations after refusals", air.count(0), 0);
        due.is("place 47, power 80", air.station(47, 80, SkipRays.EVEN, SkipRays.BOTH), 0);
        due.is("place 0, power 1", air.station(0, 1, SkipRays.LOW, SkipRays.EAST), 1);
    }

    /** On 100 in the dark a leg of 5 places takes 7, and the dark place's noise 3 more. */
    private static int between(int from, int to, int power, int antenna, int heading, int frequency) {
        SkipRays air = new SkipRays();
        air.station(from, power, antenna, heading);
        air.station(to, 1, SkipRays.EVEN, SkipRays.BOTH);
        return air.signal(0, 1, frequency);
    }

    private void headings() {
        due.is("EAST to the east", between(40, 45, 30, SkipRays.EVEN, SkipRays.EAST, 100), 20);
        due.is("EAST to the west", between(45, 40, 30, SkipRays.EVEN, SkipRays.EAST, 100), 0);
        due.is("WEST to the west", between(45, 40, 30, SkipRays.EVEN, SkipRays.WEST, 100), 20);
        due.is("WEST to the east", between(40, 45, 30, SkipRays.EVEN, SkipRays.WEST, 100), 0);
        due.is("BOTH to the east", between(40, 45, 30, SkipRays.EVEN, SkipRays.BOTH, 100), 17);
        due.is("BOTH to the west", between(45, 40, 30, SkipRays.EVEN, SkipRays.BOTH, 100), 17);
    }

    private void antennas() {
        due.is("LOW, angle 1", between(40, 45, 30, SkipRays.LOW, SkipRays.EAST, 100), 28);
        due.is("HIGH, angle 1", between(40, 45, 30, SkipRays.HIGH, SkipRays.EAST, 100), 12);
        due.is("LOW, angles 4 and 5", between(40, 43, 30, SkipRays.LOW, SkipRays.EAST, 100), 24);
        due.is("HIGH, angles 4 and 5", between(40, 43, 30, SkipRays.HIGH, SkipRays.EAST, 100), 22);
        due.is("EVEN, angles 4 and 5", between(40, 43, 30, SkipRays.EVEN, SkipRays.EAST, 100), 22);
        due.is("LOW, angles 8 and 9", between(40, 41, 30, SkipRays.LOW, SkipRays.EAST, 42), 18);
        due.is("HIGH, angles 8 and 9", between(40, 41, 30, SkipRays.HIGH, SkipRays.EAST, 42), 32);
        due.is("power 80, HIGH, angle 9", between(40, 41, 80, SkipRays.HIGH, SkipRays.EAST, 42), 82);
    }

    private void beginningBelowZero() {
        due.is("power 8, HIGH, begins with 0", between(40, 45, 8, SkipRays.HIGH, SkipRays.EAST, 100), NO_SIGNAL);
        due.is("power 7, HIGH, begins below 0", between(40, 45, 7, SkipRays.HIGH, SkipRays.EAST, 100), NO_SIGNAL);
        due.is("begins with 6", between(40, 45, 6, SkipRays.EVEN, SkipRays.EAST, 100), NO_SIGNAL);
        due.is("begins with 7, ends with 0", between(40, 45, 7, SkipRays.EVEN, SkipRays.EAST, 100), -3);
        due.is("27 less 20", between(40, 45, 27, SkipRays.EVEN, SkipRays.WEST, 100), -3);
        due.is("26 less 20", between(40, 45, 26, SkipRays.EVEN, SkipRays.WEST, 100), NO_SIGNAL);
        due.is("19 less 20", between(40, 45, 19, SkipRays.EVEN, SkipRays.WEST, 100), NO_SIGNAL);
        due.is("10 less 3", between(40, 45, 10, SkipRays.EVEN, SkipRays.BOTH, 100), -3);
        due.is("9 less 3", between(40, 45, 9, SkipRays.EVEN, SkipRays.BOTH, 100), NO_SIGNAL);
        due.is("no path", between(40, 41, 80, SkipRays.EVEN, SkipRays.BOTH, 100), NO_SIGNAL);
    }

    /** From 40 to 4 the angles 2 and 3 take 30, the angles 4 and 5 take 38. */
    private void strongestPath() {
        due.is("EVEN", between(40, 4, 50, SkipRays.EVEN, SkipRays.EAST, 100), 17);
        due.is("LOW", between(40, 4, 50, SkipRays.LOW, SkipRays.EAST, 100), 23);
        due.is("HIGH", between(40, 4, 50, SkipRays.HIGH, SkipRays.EAST, 100), 13);
    }

    private void noise() {
        SkipRays air = new SkipRays();
        air.station(40, 30, SkipRays.EVEN, SkipRays.EAST);
        air.station(45, 30, SkipRays.EVEN, SkipRays.WEST);
        air.noise(45, 40);
        due.is("noise there", air.signal(0, 1, 100), -20);
        due.is("no noise here", air.signal(1, 0, 100), 20);
        air.noise(45, 0);
        air.noise(40, 5);
        due.is("no noise there", air.signal(0, 1, 100), 20);
        due.is("noise here", air.signal(1, 0, 100), 15);
        air.station(9, 30, SkipRays.EVEN, SkipRays.EAST);
        air.station(14, 30, SkipRays.EVEN, SkipRays.WEST);
        due.is("out of the dark, 2 * 40 / 160", air.signal(2, 3, 160), 23);
        due.is("into the dark", air.signal(3, 2, 160), 20);
        due.is("noise adds nothing to the questions", air.noise(40, 0), 5);
    }

    private void onePlace() {
        SkipRays air = new SkipRays();
        air.station(40, 30, SkipRays.EVEN, SkipRays.EAST);
        air.station(40, 30, SkipRays.EVEN, SkipRays.BOTH);
        due.is("both at one place", air.signal(0, 1, 10), 25);
        due.is("the other way", air.signal(1, 0, 10), 22);
        due.is("on a frequency that flies away", air.signal(0, 1, 100), NO_SIGNAL);
    }

    private void signalRefusals() {
        SkipRays air = new SkipRays();
        due.outside("no station at all", () -> air.signal(0, 1, 10));
        air.station(40, 30, SkipRays.EVEN, SkipRays.EAST);
        air.station(45, 30, SkipRays.EVEN, SkipRays.EAST);
        due.outside("station -1", () -> air.signal(-1, 0, 10));
        due.outside("station 2", () -> air.signal(2, 0, 10));
        due.outside("other -1", () -> air.signal(0, -1, 10));
        due.outside("other 2", () -> air.signal(0, 2, 10));
        due.outside("both 2, the station first", () -> air.signal(2, 2, 9));
        due.refused("the same", () -> air.signal(1, 1, 10));
        due.refused("frequency 9", () -> air.signal(0, 1, 9));
        due.refused("frequency 301", () -> air.signal(0, 1, 301));
        due.is("frequency 300", air.signal(0, 1, 300), NO_SIGNAL);
    }

    private static SkipRays two(int power, int otherPower) {
        SkipRays air = new SkipRays();
        air.station(40, power, SkipRays.EVEN, SkipRays.EAST);
        air.station(45, otherPower, SkipRays.EVEN, SkipRays.WEST);
        return air;
    }

    private void modes() {
        due.is("VOICE, 10 and 10", two(20, 20).call(0, 1, 100, SkipRays.VOICE), true);
        due.is("VOICE, 9 and 10", two(19, 20).call(0, 1, 100, SkipRays.VOICE), false);
        due.is("VOICE, 10 and 9", two(20, 19).call(0, 1, 100, SkipRays.VOICE), false);
        due.is("KEYED, 4 and 4", two(14, 14).call(0, 1, 100, SkipRays.KEYED), true);
        due.is("KEYED, 3 and 4", two(13, 14).call(0, 1, 100, SkipRays.KEYED), false);
        due.is("KEYED, 4 and 3", two(14, 13).call(0, 1, 100, SkipRays.KEYED), false);
        due.is("SLOW, -2 and -2", two(8, 8).call(0, 1, 100, SkipRays.SLOW), true);
        due.is("SLOW, -3 and -2", two(7, 8).call(0, 1, 100, SkipRays.SLOW), false);
        due.is("SLOW, -2 and -3", two(8, 7).call(0, 1, 100, SkipRays.SLOW), false);
        due.is("SLOW, none", two(80, 80).call(0, 1, 200, SkipRays.SLOW), false);
    }

    private void bothWays() {
        SkipRays air = two(80, 9);
        due.is("one of them too weak", air.call(0, 1, 100, SkipRays.VOICE), false);
        due.is("from the other side", air.call(1, 0, 100, SkipRays.VOICE), false);
        due.is("no contact", air.count(2), 0);
        air.noise(45, 30);
        due.is("more noise there", air.call(1, 0, 100, SkipRays.SLOW), true);
        due.is("a contact", air.count(2), 1);
        due.is("once more", air.call(1, 0, 100, SkipRays.SLOW), true);
        due.is("another contact", air.count(2), 2);
    }

    private void callRefusals() {
        SkipRays air = two(80, 80);
        due.outside("station -1", () -> air.call(-1, 0, 100, 0));
        due.outside("station 2", () -> air.call(2, 0, 100, 0));
        due.outside("other -1", () -> air.call(0, -1, 100, 0));
        due.outside("other 2", () -> air.call(0, 2, 100, 0));
        due.outside("other 2, the station first", () -> air.call(0, 2, 9, 3));
        due.refused("the same", () -> air.call(1, 1, 100, 0));
        due.refused("frequency 9", () -> air.call(0, 1, 9, 0));
        due.refused("frequency 301", () -> air.call(0, 1, 301, 0));
        due.refused("mode -1", () -> air.call(0, 1, 100, -1));
        due.refused("mode 3", () -> air.call(0, 1, 100, 3));
        due.is("no contact", air.count(2), 0);
    }

    private void fullOfContacts() {
        SkipRays air = two(80, 80);
        for (int n = 0; n < 60; n++) {
            due.is("contact " + n, air.call(n % 2, 1 - n % 2, 100, n % 3), true);
        }
        due.full("a 61st", () -> air.call(0, 1, 100, 0));
        due.full("what would be none", () -> air.call(0, 1, 300, 0));
        due.refused("the same", () -> air.call(0, 0, 100, 0));
        due.outside("station 2", () -> air.call(2, 0, 100, 0));
        due.is("contacts", air.count(2), 60);
        due.is("the last one's caller", air.contactOf(59, 0), 1);
    }

    private void contacts() {
        SkipRays air = two(80, 80);
        air.pass(2);
        air.call(1, 0, 100, SkipRays.KEYED);
        air.call(1, 0, 300, SkipRays.KEYED);
        air.pass(1);
        air.call(0, 1, 101, SkipRays.SLOW);
        air.call(0, 1, 102, SkipRays.VOICE);
        int[][] wants = {{1, 0, 100, SkipRays.KEYED, 2}, {0, 1, 101, SkipRays.SLOW, 3}, {0, 1, 102, SkipRays.VOICE, 3}};
        due.is("contacts", air.count(2), wants.length);
        for (int n = 0; n < wants.length; n++) {
            for (int what = 0; what <= 4; what++) {
                due.is("contact " + n + ", " + what, air.contactOf(n, what), wants[n][what]);
            }
        }
    }

    private void contactRefusals() {
        SkipRays air = two(80, 80);
        due.outside("no contact at all", () -> air.contactOf(0, 0));
        air.call(0, 1, 100, 0);
        due.outside("contact -1", () -> air.contactOf(-1, 0));
        due.outside("contact 1", () -> air.contactOf(1, 0));
        due.outside("contact 1, the contact first", () -> air.contactOf(1, 5));
        due.refused("what -1", () -> air.contactOf(0, -1));
        due.refused("what 5", () -> air.contactOf(0, 5));
    }
}
