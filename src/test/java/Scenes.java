/** Objects in some states in which calls are refused or questions asked; each is made by some 180 calls at most. */
final class Scenes {
    static final int LAST_HOUR = 5000;

    private Scenes() {
    }

    static SkipRays fresh() {
        return new SkipRays();
    }

    /** A bit of everything: 3 stations, 2 beacons, 3 contacts, 5 entries of which 2 are paired. */
    static SkipRays busy() {
        SkipRays air = new SkipRays();
        air.sea(46, true);
        air.sea(0, true);
        air.noise(45, 7);
        air.noise(2, 1);
        air.station(40, 80, SkipRays.EVEN, SkipRays.EAST);
        air.station(45, 80, SkipRays.LOW, SkipRays.WEST);
        air.station(2, 80, SkipRays.HIGH, SkipRays.BOTH);
        air.beacon(40, 100, 40);
        air.beacon(45, 20, 60);
        air.call(0, 1, 100, SkipRays.SLOW);
        air.log(1, 2, 100);
        air.log(0, 1, 100);
        air.pass(1);
        air.call(1, 0, 100, SkipRays.KEYED);
        air.call(2, 0, 100, SkipRays.SLOW);
        air.listen(45);
        air.sun(80);
        air.storm(20, 3);
        air.flare(40);
        air.cloud(0, 30, 2);
        air.cloud(47, 60, 4);
        air.listen(2);
        air.pass(1);
        air.log(1, 0, 100);
        air.log(0, 1, 100);
        air.log(1, 0, 100);
        return air;
    }

    /** 12 stations, 6 beacons, 60 contacts, 80 entries. */
    static SkipRays full() {
        SkipRays air = new SkipRays();
        for (int n = 0; n < 12; n++) {
            air.station(n % 2 == 0 ? 40 : 45, 80, SkipRays.EVEN, SkipRays.BOTH);
        }
        for (int n = 0; n < 6; n++) {
            air.beacon(40, 100 + n, 20 + n);
        }
        for (int n = 0; n < 60; n++) {
            air.call(n % 12, (n + 1) % 12, 100, SkipRays.VOICE);
        }
        for (int n = 0; n < 80; n++) {
            air.log(n % 12, (n + 1) % 12, 100);
        }
        return air;
    }

    /** The hour 5000, with a storm, a flare and a cloud of that hour. */
    static SkipRays late() {
        SkipRays air = at(LAST_HOUR);
        air.storm(20, 3);
        air.flare(40);
        air.cloud(0, 30, 2);
        return air;
    }

    /** A new object after so many hours. */
    static SkipRays at(int hour) {
        SkipRays air = new SkipRays();
        for (int left = hour; left > 0; left -= 48) {
            air.pass(Math.min(48, left));
        }
        return air;
    }

    /** Sea all round. */
    static SkipRays wet() {
        SkipRays air = new SkipRays();
        for (int place = 0; place < 48; place++) {
            air.sea(place, true);
        }
        return air;
    }

    /** Two stations, 0 at 40 and 1 at 45, each with the heading to the other one, in the dark. */
    static SkipRays two(int power, int otherPower) {
        SkipRays air = new SkipRays();
        air.station(40, power, SkipRays.EVEN, SkipRays.EAST);
        air.station(45, otherPower, SkipRays.EVEN, SkipRays.WEST);
        return air;
    }
}
