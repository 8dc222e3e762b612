/** The air and the ground: promises 2 to 8 and 14 to 16. */
final class AirTests {
    private final Due due;

    AirTests(Due due) {
        this.due = due;
    }

    void run() {
        sun();
        storm();
        flare();
        cloud();
        sea();
        noise();
        pass();
        hour();
        light();
        density();
    }

    private void sun() {
        due.promise(2);
        SkipRays air = new SkipRays();
        due.is("the sun at first", air.sun(100), 50);
        due.is("then", air.sun(0), 100);
        due.is("then", air.sun(51), 0);
        due.is("F in the dark, 51 / 4", air.density(0, SkipRays.F), 42);
        due.is("F by light, 51 / 2", air.density(24, SkipRays.F), 85);
        air.sun(100);
        due.is("F in the dark, 100 / 4", air.density(0, SkipRays.F), 55);
        due.is("F by light, 100 / 2", air.density(24, SkipRays.F), 110);
        air.sun(3);
        due.is("F in the dark, 3 / 4", air.density(0, SkipRays.F), 30);
        due.is("F by light, 3 / 2", air.density(24, SkipRays.F), 61);
        due.refused("sun(-1)", () -> air.sun(-1));
        due.refused("sun(101)", () -> air.sun(101));
        due.refused("sun(least int)", () -> air.sun(Integer.MIN_VALUE));
        due.refused("sun(greatest int)", () -> air.sun(Integer.MAX_VALUE));
        due.is("the sun after refusals", air.sun(7), 3);
    }

    private void storm() {
        due.promise(3);
        SkipRays air = new SkipRays();
        air.storm(20, 2);
        due.is("F by light", air.density(24, SkipRays.F), 65);
        due.is("F in the dark", air.density(0, SkipRays.F), 22);
        due.is("D", air.density(24, SkipRays.D), 12);
        due.is("E", air.density(24, SkipRays.E), 46);
        air.pass(1);
        due.is("F in the storm's last hour", air.density(0, SkipRays.F), 22);
        air.pass(1);
        due.is("F when it is over", air.density(0, SkipRays.F), 42);
        air.storm(60, 72);
        due.is("F at least", air.density(0, SkipRays.F), 5);
        air.storm(37, 1);
        due.is("F just at the least", air.density(0, SkipRays.F), 5);
        air.storm(36, 1);
        due.is("F above the least, a new storm for the former", air.density(0, SkipRays.F), 6);
        air.pass(1);
        due.is("F after the new one's hour", air.density(0, SkipRays.F), 42);
        air.storm(1, 72);
        air.pass(48);
        air.pass(23);
        due.is("F in the 72nd hour", air.density(24, SkipRays.F), airless(24, 74) - 1);
        air.pass(1);
        due.is("F in the 73rd hour", air.density(24, SkipRays.F), airless(24, 75));
        stormRefusals(air);
    }

    private void stormRefusals(SkipRays air) {
        air.storm(10, 5);
        int before = air.density(0, SkipRays.F);
        due.refused("storm(0, 1)", () -> air.storm(0, 1));
        due.refused("storm(61, 1)", () -> air.storm(61, 1));
        due.refused("storm(-5, 1)", () -> air.storm(-5, 1));
        due.refused("storm(1, 0)", () -> air.storm(1, 0));
        due.refused("storm(1, 73)", () -> air.storm(1, 73));
        due.refused("storm(1, -1)", () -> air.storm(1, -1));
        due.is("F after refusals", air.density(0, SkipRays.F), before);
    }

    /** F with the sun at 50 and without a storm, some hours after a new object's first one. */
    private static int airless(int place, int hour) {
        int light = Math.max(0, 6 - Math.abs((hour + place / 2) % 24 - 12));
        return 30 + 5 * light + (light > 0 ? 25 : 12);
    }

    private void flare() {
        due.promise(4);
        SkipRays air = new SkipRays();
        due.is("no flare", air.flare(80), 0);
        due.is("D by light", air.density(24, SkipRays.D), 92);
        due.is("D at the rim of the light", air.density(14, SkipRays.D), 82);
        due.is("D in the dark", air.density(12, SkipRays.D), 0);
        due.is("E", air.density(24, SkipRays.E), 46);
        due.is("F", air.density(24, SkipRays.F), 85);
        air.pass(1);
        due.is("D an hour later", air.density(24, SkipRays.D), 50);
        due.is("half of it", air.flare(7), 40);
        air.pass(1);
        due.is("7 / 2", air.flare(7), 3);
        air.pass(2);
        due.is("7 / 2 / 2", air.flare(7), 1);
        air.pass(3);
        due.is("7 / 2 / 2 / 2", air.flare(1), 0);
        due.is("a new one for the former", air.flare(80), 1);
        due.refused("flare(0)", () -> air.flare(0));
        due.refused("flare(81)", () -> air.flare(81));
        due.refused("flare(-1)", () -> air.flare(-1));
        due.is("after refusals", air.flare(1), 80);
    }

    private void cloud() {
        due.promise(5);
        SkipRays air = new SkipRays();
        air.cloud(0, 100, 2);
        air.cloud(47, 1, 24);
        due.is("E under the cloud", air.density(0, SkipRays.E), 110);
        due.is("E under the other", air.density(47, SkipRays.E), 11);
        due.is("E beside it", air.density(1, SkipRays.E), 10);
        due.is("D", air.density(0, SkipRays.D), 0);
        due.is("F", air.density(0, SkipRays.F), 42);
        air.pass(1);
        due.is("E in its last hour", air.density(0, SkipRays.E), 110);
        air.pass(1);
        due.is("E when it is over", air.density(0, SkipRays.E), 10);
        due.is("E under the other", air.density(47, SkipRays.E), 11);
        air.cloud(47, 50, 1);
        due.is("E under a new one for the former", air.density(47, SkipRays.E), 60);
        air.pass(1);
        due.is("E after the new one's hour", air.density(47, SkipRays.E), 10);
        cloudOfADay();
        cloudRefusals();
    }

    private void cloudOfADay() {
        SkipRays air = new SkipRays();
        air.cloud(0, 9, 24);
        air.pass(23);
        due.is("E in the 24th hour", air.density(0, SkipRays.E), 19);
        air.pass(1);
        due.is("E in the 25th hour", air.density(0, SkipRays.E), 10);
    }

    private void cloudRefusals() {
        SkipRays air = new SkipRays();
        due.outside("cloud(-1, 1, 1)", () -> air.cloud(-1, 1, 1));
        due.outside("cloud(48, 1, 1)", () -> air.cloud(48, 1, 1));
        due.outside("cloud(48, 0, 0), the place first", () -> air.cloud(48, 0, 0));
        due.refused("cloud(0, 0, 1)", () -> air.cloud(0, 0, 1));
        due.refused("cloud(0, 101, 1)", () -> air.cloud(0, 101, 1));
        due.refused("cloud(0, 1, 0)", () -> air.cloud(0, 1, 0));
        due.refused("cloud(0, 1, 25)", () -> air.cloud(0, 1, 25));
        due.is("E after refusals", air.density(0, SkipRays.E), 10);
    }

    private void sea() {
        due.promise(6);
        SkipRays air = new SkipRays();
        due.is("land at first", air.sea(0, true), false);
        due.is("then sea", air.sea(0, true), true);
        due.is("still sea", air.sea(0, false), true);
        due.is("then land", air.sea(0, false), false);
        due.is("the last place", air.sea(47, true), false);
        due.is("its neighbour", air.sea(46, true), false);
        due.is("the last place", air.sea(47, true), true);
        due.outside("sea(-1)", () -> air.sea(-1, true));
        due.outside("sea(48)", () -> air.sea(48, true));
        due.outside("sea(least int)", () -> air.sea(Integer.MIN_VALUE, true));
    }

    private void noise() {
        due.promise(7);
        SkipRays air = new SkipRays();
        due.is("none at first", air.noise(0, 40), 0);
        due.is("then", air.noise(0, 0), 40);
        due.is("then", air.noise(0, 5), 0);
        due.is("the last place", air.noise(47, 1), 0);
        due.outside("noise(-1, 0)", () -> air.noise(-1, 0));
        due.outside("noise(48, 0)", () -> air.noise(48, 0));
        due.outside("noise(48, 41), the place first", () -> air.noise(48, 41));
        due.refused("noise(0, -1)", () -> air.noise(0, -1));
        due.refused("noise(0, 41)", () -> air.noise(0, 41));
        due.is("after refusals", air.noise(0, 0), 5);
    }

    private void pass() {
        due.promise(8);
        SkipRays air = new SkipRays();
        due.is("an hour", air.pass(1), 1);
        due.is("two days", air.pass(48), 49);
        due.refused("pass(0)", () -> air.pass(0));
        due.refused("pass(49)", () -> air.pass(49));
        due.refused("pass(-1)", () -> air.pass(-1));
        due.refused("pass(greatest int)", () -> air.pass(Integer.MAX_VALUE));
        due.is("the hour after refusals", air.hour(), 49);
        for (int n = 0; n < 103; n++) {
            air.pass(48);
        }
        due.is("near the last hour", air.hour(), 4993);
        air.flare(8);
        due.full("pass(8) at 4993", () -> air.pass(8));
        due.refused("pass(49) at 4993", () -> air.pass(49));
        due.is("the hour after that", air.hour(), 4993);
        due.is("the flare after that", air.flare(8), 8);
        due.is("pass(7) at 4993", air.pass(7), 5000);
        due.full("pass(1) at 5000", () -> air.pass(1));
        due.full("pass(48) at 5000", () -> air.pass(48));
        due.refused("pass(0) at 5000", () -> air.pass(0));
        due.is("the hour at last", air.hour(), 5000);
    }

    private void hour() {
        due.promise(14);
        SkipRays air = new SkipRays();
        due.is("at first", air.hour(), 0);
        air.pass(24);
        due.is("a day later", air.hour(), 24);
        air.pass(7);
        due.is("7 hours later", air.hour(), 31);
    }

    private void light() {
        due.promise(15);
        SkipRays air = new SkipRays();
        int[] places = {0, 12, 13, 14, 15, 16, 18, 20, 22, 23, 24, 25, 26, 28, 30, 32, 34, 35, 36, 47};
        int[] lights = {0, 0, 0, 1, 1, 2, 3, 4, 5, 5, 6, 6, 5, 4, 3, 2, 1, 1, 0, 0};
        for (int n = 0; n < places.length; n++) {
            due.is("light at " + places[n], air.light(places[n], 0), lights[n]);
        }
        int[] laters = {0, 6, 7, 11, 12, 13, 17, 18, 23, 24};
        int[] thens = {0, 0, 1, 5, 6, 5, 1, 0, 0, 0};
        for (int n = 0; n < laters.length; n++) {
            due.is("light at 0 in " + laters[n] + " hours", air.light(0, laters[n]), thens[n]);
        }
        due.is("light at 24 in a day", air.light(24, 24), 6);
        due.is("light at 47 in 13 hours", air.light(47, 13), 6);
        air.pass(12);
        due.is("light at 0 at noon", air.light(0, 0), 6);
        due.is("light at 0 an hour later", air.light(0, 1), 5);
        due.is("light at 24 at midnight", air.light(24, 0), 0);
        lightRefusals(air);
        lightAtLast();
    }

    private void lightRefusals(SkipRays air) {
        due.outside("light(-1, 0)", () -> air.light(-1, 0));
        due.outside("light(48, 0)", () -> air.light(48, 0));
        due.outside("light(48, 25), the place first", () -> air.light(48, 25));
        due.refused("light(0, -1)", () -> air.light(0, -1));
        due.refused("light(0, 25)", () -> air.light(0, 25));
    }

    private void lightAtLast() {
        SkipRays air = new SkipRays();
        for (int n = 0; n < 104; n++) {
            air.pass(48);
        }
        air.pass(8);
        due.is("light at 0 in the last hour", air.light(0, 0), 2);
        due.is("light at 0 a day after it", air.light(0, 24), 2);
        due.is("light at 0 four hours after it", air.light(0, 4), 6);
    }

    private void density() {
        due.promise(16);
        SkipRays air = new SkipRays();
        int[] places = {0, 13, 14, 24, 30, 35, 36};
        int[] lights = {0, 0, 1, 6, 3, 1, 0};
        for (int n = 0; n < places.length; n++) {
            int light = lights[n];
            due.is("D over " + places[n], air.density(places[n], SkipRays.D), 2 * light);
            due.is("E over " + places[n], air.density(places[n], SkipRays.E), 10 + 6 * light);
            due.is("F over " + places[n], air.density(places[n], SkipRays.F), 30 + 5 * light + (light > 0 ? 25 : 12));
        }
        air.flare(10);
        air.storm(60, 3);
        air.cloud(24, 30, 3);
        air.sun(81);
        due.is("D with all", air.density(24, SkipRays.D), 22);
        due.is("E with all", air.density(24, SkipRays.E), 76);
        due.is("F with all", air.density(24, SkipRays.F), 40);
        air.pass(2);
        due.is("D two hours later", air.density(24, SkipRays.D), 10);
        due.is("E two hours later", air.density(24, SkipRays.E), 64);
        due.is("F two hours later", air.density(24, SkipRays.F), 30);
        due.outside("density(-1, 0)", () -> air.density(-1, 0));
        due.outside("density(48, 0)", () -> air.density(48, 0));
        due.outside("density(48, 3), the place first", () -> air.density(48, 3));
        due.refused("density(0, -1)", () -> air.density(0, -1));
        due.refused("density(0, 3)", () -> air.density(0, 3));
    }
}
