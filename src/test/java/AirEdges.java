/** Boundary cases of a new object, the air and the ground: promises 1 to 8. */
final class AirEdges extends Edges {
    private static final int D = SkipRays.D;
    private static final int E = SkipRays.E;
    private static final int F = SkipRays.F;
    private static final int LEAST = Integer.MIN_VALUE;
    private static final int GREATEST = Integer.MAX_VALUE;

    AirEdges(Due due, int[] tests) {
        super(due, tests);
    }

    // ---- promise 1: a new object

    void promise01TheHourIs0() {
        due.is("the hour", new SkipRays().hour(), 0);
    }

    void promise01LandAllRound() {
        SkipRays air = new SkipRays();
        for (int place = 0; place < 48; place++) {
            due.is("sea at " + place, air.sea(place, true), false);
        }
    }

    void promise01NoNoiseAtFirst() {
        SkipRays air = new SkipRays();
        for (int place = 0; place < 48; place++) {
            due.is("the noise of " + place, air.noise(place, 1), 0);
        }
    }

    void promise01TheSunIs50AtFirst() {
        due.is("the sun", new SkipRays().sun(0), 50);
    }

    void promise01NoFlareNoStormNoCloudAtFirst() {
        SkipRays air = new SkipRays();
        int[] lights = {0, 0, 0, 0, 0, 0, 0, 1, 2, 3, 4, 5, 6, 5, 4, 3, 2, 1, 0, 0, 0, 0, 0, 0};
        for (int place = 0; place < 48; place++) {
            int light = lights[place / 2];
            due.is("D over " + place, air.density(place, D), 2 * light);
            due.is("E over " + place, air.density(place, E), 10 + 6 * light);
            due.is("F over " + place, air.density(place, F), 30 + 5 * light + (light > 0 ? 25 : 12));
        }
        due.is("the flare", air.flare(1), 0);
    }

    void promise01NothingIsCounted() {
        SkipRays air = new SkipRays();
        for (int what = 0; what <= 4; what++) {
            due.is("count " + what, air.count(what), 0);
        }
        due.is("forecasts", air.forecasts(false), 0);
        due.is("right forecasts", air.forecasts(true), 0);
    }

    void promise01NothingBearsTheNumber0() {
        outside("a station", Scenes::fresh, air -> air.score(0));
        outside("a contact", Scenes::fresh, air -> air.contactOf(0, 0));
        outside("an entry", Scenes::fresh, air -> air.entryOf(0, 0));
        outside("a call of stations", Scenes::fresh, air -> air.call(0, 1, 100, 0));
        outside("an entry of stations", Scenes::fresh, air -> air.log(0, 1, 100));
        outside("a signal of stations", Scenes::fresh, air -> air.signal(0, 1, 100));
    }

    void promise01The512thCallIsAnswered() {
        SkipRays air = new SkipRays();
        for (int n = 1; n <= 511; n++) {
            air.sun(n % 101);
        }
        due.is("the 512th call", air.sun(0), 511 % 101);
    }

    void promise01ObjectsHaveNothingInCommon() {
        SkipRays quiet = new SkipRays();
        Scenes.full();
        Scenes.busy();
        alike("beside others that are used", quiet, new SkipRays());
    }

    // ---- promise 2: sun

    void promise02LevelsThatAreAllowed() {
        SkipRays air = new SkipRays();
        due.is("sun(0)", air.sun(0), 50);
        due.is("sun(100)", air.sun(100), 0);
        due.is("sun(1)", air.sun(1), 100);
        due.is("sun(99)", air.sun(99), 1);
        due.is("sun(99) again", air.sun(99), 99);
    }

    void promise02LevelsThatAreNot() {
        refused("sun(-1)", Scenes::busy, air -> air.sun(-1));
        refused("sun(101)", Scenes::busy, air -> air.sun(101));
        refused("sun(least)", Scenes::busy, air -> air.sun(LEAST));
        refused("sun(greatest)", Scenes::busy, air -> air.sun(GREATEST));
        refused("sun(101) of a new object", Scenes::fresh, air -> air.sun(101));
    }

    void promise02APlaceWithoutLightHasAQuarterRoundedDown() {
        int[] levels = {0, 3, 4, 7, 8, 99, 100};
        int[] densities = {30, 30, 31, 31, 32, 54, 55};
        for (int n = 0; n < levels.length; n++) {
            SkipRays air = new SkipRays();
            air.sun(levels[n]);
            due.is("F with the sun at " + levels[n], air.density(0, F), densities[n]);
        }
    }

    void promise02APlaceWithLightHasHalfRoundedDown() {
        int[] levels = {0, 1, 2, 3, 99, 100};
        int[] densities = {60, 60, 61, 61, 109, 110};
        for (int n = 0; n < levels.length; n++) {
            SkipRays air = new SkipRays();
            air.sun(levels[n]);
            due.is("F with the sun at " + levels[n], air.density(24, F), densities[n]);
        }
    }

    void promise02LightOf1IsLight() {
        SkipRays air = new SkipRays();
        air.sun(100);
        due.is("F over 13, the last one in the dark", air.density(13, F), 55);
        due.is("F over 14, the first one by light", air.density(14, F), 85);
        due.is("F over 35, the last one by light", air.density(35, F), 85);
        due.is("F over 36, the first one in the dark", air.density(36, F), 55);
    }

    void promise02TheSunSparesDAndE() {
        SkipRays air = new SkipRays();
        air.sun(100);
        due.is("D", air.density(24, D), 12);
        due.is("E", air.density(24, E), 46);
    }

    void promise02TheLevelStaysAsHoursGoBy() {
        SkipRays air = new SkipRays();
        air.sun(77);
        air.pass(48);
        due.is("the sun two days later", air.sun(0), 77);
    }

    // ---- promise 3: storm

    void promise03StrengthsThatAreAllowed() {
        SkipRays air = new SkipRays();
        air.storm(1, 1);
        due.is("storm(1), F by light", air.density(24, F), 84);
        air.storm(60, 1);
        due.is("storm(60), F by light", air.density(24, F), 25);
    }

    void promise03StrengthsThatAreNot() {
        refused("storm(0, 1)", Scenes::busy, air -> air.storm(0, 1));
        refused("storm(61, 1)", Scenes::busy, air -> air.storm(61, 1));
        refused("storm(-1, 1)", Scenes::busy, air -> air.storm(-1, 1));
        refused("storm(least, 1)", Scenes::busy, air -> air.storm(LEAST, 1));
        refused("storm(greatest, 1)", Scenes::busy, air -> air.storm(GREATEST, 1));
        refused("storm(0, 1) without one", Scenes::fresh, air -> air.storm(0, 1));
    }

    void promise03HoursThatAreNot() {
        refused("storm(1, 0)", Scenes::busy, air -> air.storm(1, 0));
        refused("storm(1, 73)", Scenes::busy, air -> air.storm(1, 73));
        refused("storm(1, -1)", Scenes::busy, air -> air.storm(1, -1));
        refused("storm(1, least)", Scenes::busy, air -> air.storm(1, LEAST));
        refused("storm(1, greatest)", Scenes::busy, air -> air.storm(1, GREATEST));
        refused("storm(0, 0)", Scenes::busy, air -> air.storm(0, 0));
        refused("storm(61, 73)", Scenes::busy, air -> air.storm(61, 73));
    }

    void promise03TheHourOfTheCallIsItsFirstOne() {
        SkipRays air = new SkipRays();
        air.storm(10, 1);
        due.is("F in its one hour", air.density(0, F), 32);
        air.pass(1);
        due.is("F an hour later", air.density(0, F), 42);
    }

    void promise03TheLastHourOf72() {
        SkipRays air = new SkipRays();
        air.storm(10, 72);
        air.pass(48);
        air.pass(23);
        due.is("F over 0 in the 72nd hour", air.density(0, F), 32);
        air.pass(1);
        due.is("F over 0 in the 73rd hour", air.density(0, F), 42);
    }

    void promise03OverInTheMidstOfHoursThatGoBy() {
        int[] hours = {1, 2, 3, 4, 48};
        for (int n = 0; n < hours.length; n++) {
            SkipRays air = new SkipRays();
            air.storm(10, hours[n]);
            air.pass(3);
            due.is("F after 3 hours, storm of " + hours[n], air.density(0, F), hours[n] > 3 ? 32 : 42);
        }
    }

    void promise03ANewOneInPlaceOfTheFormer() {
        SkipRays air = new SkipRays();
        air.storm(40, 72);
        air.storm(10, 1);
        due.is("F in a weaker one", air.density(24, F), 75);
        air.pass(1);
        due.is("F over 0 after its one hour", air.density(0, F), 42);
        air.storm(1, 1);
        air.storm(30, 3);
        due.is("F over 0 in a stronger one", air.density(0, F), 12);
        air.pass(2);
        due.is("F over 0 in its last hour", air.density(0, F), 12);
        air.pass(1);
        due.is("F over 0 when it is over", air.density(0, F), 42);
    }

    void promise03FIsAtLeast5() {
        int[] strengths = {35, 36, 37, 38, 60};
        int[] densities = {7, 6, 5, 5, 5};
        for (int n = 0; n < strengths.length; n++) {
            SkipRays air = new SkipRays();
            air.storm(strengths[n], 1);
            due.is("F in the dark, storm " + strengths[n], air.density(0, F), densities[n]);
        }
    }

    void promise03FIsAtLeast5ByLightToo() {
        int[] strengths = {29, 30, 31, 60};
        int[] densities = {6, 5, 5, 5};
        for (int n = 0; n < strengths.length; n++) {
            SkipRays air = new SkipRays();
            air.sun(0);
            air.storm(strengths[n], 1);
            due.is("F over 14, storm " + strengths[n], air.density(14, F), densities[n]);
        }
    }

    void promise03AStormSparesDAndE() {
        SkipRays air = new SkipRays();
        air.storm(60, 1);
        due.is("D", air.density(24, D), 12);
        due.is("E", air.density(24, E), 46);
        due.is("E in the dark", air.density(0, E), 10);
    }

    void promise03InTheLastHourOfAll() {
        SkipRays air = Scenes.at(Scenes.LAST_HOUR);
        air.storm(60, 72);
        due.is("F over 0, light 2", air.density(0, F), 5);
        air.storm(59, 72);
        due.is("F over 0, light 2", air.density(0, F), 6);
    }

    // ---- promise 4: flare

    void promise04SizesThatAreAllowed() {
        SkipRays air = new SkipRays();
        due.is("flare(1)", air.flare(1), 0);
        due.is("flare(80)", air.flare(80), 1);
        due.is("D over 24", air.density(24, D), 92);
        due.is("flare(2)", air.flare(2), 80);
        due.is("D over 24", air.density(24, D), 14);
    }

    void promise04SizesThatAreNot() {
        refused("flare(0)", Scenes::busy, air -> air.flare(0));
        refused("flare(81)", Scenes::busy, air -> air.flare(81));
        refused("flare(-1)", Scenes::busy, air -> air.flare(-1));
        refused("flare(least)", Scenes::busy, air -> air.flare(LEAST));
        refused("flare(greatest)", Scenes::busy, air -> air.flare(GREATEST));
        refused("flare(0) without one", Scenes::fresh, air -> air.flare(0));
    }

    void promise04HalvesRoundedDownTo0() {
        int[] sizes = {80, 40, 20, 10, 5, 2, 1, 0, 0};
        for (int hours = 1; hours < sizes.length; hours++) {
            SkipRays air = new SkipRays();
            air.flare(80);
            air.pass(hours);
            due.is("80, " + hours + " hours later", air.flare(1), sizes[hours]);
        }
        SkipRays air = new SkipRays();
        air.flare(1);
        air.pass(1);
        due.is("1, an hour later: there is none", air.flare(1), 0);
    }

    void promise04LightOf1LetsItIn() {
        SkipRays air = new SkipRays();
        air.flare(80);
        due.is("D over 13, the last one in the dark", air.density(13, D), 0);
        due.is("D over 14, the first one by light", air.density(14, D), 82);
        due.is("D over 35, the last one by light", air.density(35, D), 82);
        due.is("D over 36, the first one in the dark", air.density(36, D), 0);
    }

    void promise04ItComesAndGoesWithTheLight() {
        SkipRays air = new SkipRays();
        air.flare(80);
        air.pass(1);
        due.is("D over 13, in the light by now", air.density(13, D), 42);
        due.is("D over 35, in the dark by now", air.density(35, D), 0);
    }

    void promise04AFlareSparesEAndF() {
        SkipRays air = new SkipRays();
        air.flare(80);
        due.is("E", air.density(24, E), 46);
        due.is("F", air.density(24, F), 85);
    }

    void promise04ANewOneInPlaceOfTheFormer() {
        SkipRays air = new SkipRays();
        air.flare(80);
        air.flare(3);
        due.is("D over 24", air.density(24, D), 15);
        air.pass(1);
        due.is("half of the new one", air.flare(1), 1);
    }

    // ---- promise 5: cloud

    void promise05PlacesThatAreThere() {
        SkipRays air = new SkipRays();
        air.cloud(0, 5, 1);
        air.cloud(47, 6, 1);
        due.is("E over 0", air.density(0, E), 15);
        due.is("E over 47", air.density(47, E), 16);
        due.is("E over 1", air.density(1, E), 10);
        due.is("E over 46", air.density(46, E), 10);
    }

    void promise05PlacesThatAreNot() {
        outside("cloud(-1, 1, 1)", Scenes::busy, air -> air.cloud(-1, 1, 1));
        outside("cloud(48, 1, 1)", Scenes::busy, air -> air.cloud(48, 1, 1));
        outside("cloud(least, 1, 1)", Scenes::busy, air -> air.cloud(LEAST, 1, 1));
        outside("cloud(greatest, 1, 1)", Scenes::busy, air -> air.cloud(GREATEST, 1, 1));
    }

    void promise05StrengthsThatAreAllowed() {
        SkipRays air = new SkipRays();
        air.cloud(24, 1, 1);
        due.is("E over 24, cloud 1", air.density(24, E), 47);
        air.cloud(24, 100, 1);
        due.is("E over 24, cloud 100", air.density(24, E), 146);
    }

    void promise05StrengthsThatAreNot() {
        refused("cloud(0, 0, 1)", Scenes::busy, air -> air.cloud(0, 0, 1));
        refused("cloud(0, 101, 1)", Scenes::busy, air -> air.cloud(0, 101, 1));
        refused("cloud(0, -1, 1)", Scenes::busy, air -> air.cloud(0, -1, 1));
        refused("cloud(0, least, 1)", Scenes::busy, air -> air.cloud(0, LEAST, 1));
        refused("cloud(0, greatest, 1)", Scenes::busy, air -> air.cloud(0, GREATEST, 1));
    }

    void promise05HoursThatAreNot() {
        refused("cloud(0, 1, 0)", Scenes::busy, air -> air.cloud(0, 1, 0));
        refused("cloud(0, 1, 25)", Scenes::busy, air -> air.cloud(0, 1, 25));
        refused("cloud(0, 1, -1)", Scenes::busy, air -> air.cloud(0, 1, -1));
        refused("cloud(0, 1, greatest)", Scenes::busy, air -> air.cloud(0, 1, GREATEST));
        refused("cloud(47, 0, 25)", Scenes::busy, air -> air.cloud(47, 0, 25));
    }

    void promise05ThePlaceAheadOfTheRanges() {
        outside("cloud(48, 0, 1)", Scenes::busy, air -> air.cloud(48, 0, 1));
        outside("cloud(-1, 1, 25)", Scenes::busy, air -> air.cloud(-1, 1, 25));
        outside("cloud(48, 101, 0)", Scenes::busy, air -> air.cloud(48, 101, 0));
    }

    void promise05TheHourOfTheCallIsItsFirstOne() {
        SkipRays air = new SkipRays();
        air.cloud(0, 9, 1);
        due.is("E in its one hour", air.density(0, E), 19);
        air.pass(1);
        due.is("E an hour later", air.density(0, E), 10);
    }

    void promise05TheLastHourOf24() {
        SkipRays air = new SkipRays();
        air.cloud(0, 9, 24);
        air.pass(23);
        due.is("E in the 24th hour", air.density(0, E), 19);
        air.pass(1);
        due.is("E in the 25th hour", air.density(0, E), 10);
    }

    void promise05EachEndsByItself() {
        SkipRays air = new SkipRays();
        air.cloud(0, 9, 1);
        air.cloud(1, 9, 2);
        air.cloud(2, 9, 3);
        air.pass(2);
        due.is("E over 0, 1 hour", air.density(0, E), 10);
        due.is("E over 1, 2 hours", air.density(1, E), 10);
        due.is("E over 2, 3 hours", air.density(2, E), 19);
    }

    void promise05ANewOneInPlaceOfTheFormerOfThatPlace() {
        SkipRays air = new SkipRays();
        air.cloud(0, 90, 24);
        air.cloud(1, 90, 24);
        air.cloud(0, 2, 1);
        due.is("E under the new one", air.density(0, E), 12);
        due.is("E under that of another place", air.density(1, E), 100);
        air.pass(1);
        due.is("E after the new one's hour", air.density(0, E), 10);
        due.is("E under that of another place", air.density(1, E), 100);
    }

    void promise05OnAllPlaces() {
        SkipRays air = new SkipRays();
        for (int place = 0; place < 48; place++) {
            air.cloud(place, place + 1, 2);
        }
        due.is("E over 0", air.density(0, E), 11);
        due.is("E over 24", air.density(24, E), 71);
        due.is("E over 47", air.density(47, E), 58);
        air.pass(2);
        due.is("E over 0, all over", air.density(0, E), 10);
        due.is("E over 47, all over", air.density(47, E), 10);
    }

    void promise05ACloudSparesDAndF() {
        SkipRays air = new SkipRays();
        air.cloud(24, 100, 1);
        due.is("D", air.density(24, D), 12);
        due.is("F", air.density(24, F), 85);
    }

    // ---- promise 6: sea

    void promise06PlacesThatAreThere() {
        SkipRays air = new SkipRays();
        due.is("sea(0)", air.sea(0, true), false);
        due.is("sea(47)", air.sea(47, true), false);
        due.is("sea(1)", air.sea(1, false), false);
        due.is("sea(46)", air.sea(46, false), false);
        due.is("sea(0) again", air.sea(0, true), true);
        due.is("sea(47) again", air.sea(47, false), true);
        due.is("land at 47", air.sea(47, false), false);
    }

    void promise06PlacesThatAreNot() {
        outside("sea(-1)", Scenes::busy, air -> air.sea(-1, true));
        outside("sea(48)", Scenes::busy, air -> air.sea(48, true));
        outside("land at -1", Scenes::busy, air -> air.sea(-1, false));
        outside("land at 48", Scenes::busy, air -> air.sea(48, false));
        outside("sea(least)", Scenes::busy, air -> air.sea(LEAST, true));
        outside("sea(greatest)", Scenes::busy, air -> air.sea(GREATEST, true));
    }

    /** Legs of 5 places that take 7 each, in the dark. */
    void promise06TheGroundOfTheRingsRim() {
        SkipRays air = new SkipRays();
        due.is("over land at 47", air.path(42, 4, 100, 50, 0, 4), 30);
        due.is("over land at 0", air.path(43, 5, 100, 50, 0, 4), 30);
        air.sea(47, true);
        due.is("over sea at 47", air.path(42, 4, 100, 50, 0, 4), 33);
        due.is("over land at 0, sea at 47", air.path(43, 5, 100, 50, 0, 4), 30);
        air.sea(0, true);
        due.is("over sea at 0", air.path(43, 5, 100, 50, 0, 4), 33);
        due.is("over sea at 0, to the west", air.path(5, 43, 100, 50, 0, 4), 33);
    }

    // ---- promise 7: noise

    void promise07LevelsThatAreAllowed() {
        SkipRays air = new SkipRays();
        due.is("noise(0, 40)", air.noise(0, 40), 0);
        due.is("noise(0, 0)", air.noise(0, 0), 40);
        due.is("noise(0, 39)", air.noise(0, 39), 0);
        due.is("noise(0, 1)", air.noise(0, 1), 39);
        due.is("noise(0, 1) again", air.noise(0, 1), 1);
    }

    void promise07LevelsThatAreNot() {
        refused("noise(45, -1)", Scenes::busy, air -> air.noise(45, -1));
        refused("noise(45, 41)", Scenes::busy, air -> air.noise(45, 41));
        refused("noise(45, least)", Scenes::busy, air -> air.noise(45, LEAST));
        refused("noise(45, greatest)", Scenes::busy, air -> air.noise(45, GREATEST));
        refused("noise(0, 41) of a new object", Scenes::fresh, air -> air.noise(0, 41));
    }

    void promise07PlacesThatAreThere() {
        SkipRays air = new SkipRays();
        due.is("noise(0, 5)", air.noise(0, 5), 0);
        due.is("noise(47, 6)", air.noise(47, 6), 0);
        due.is("noise(1, 0)", air.noise(1, 0), 0);
        due.is("noise(46, 0)", air.noise(46, 0), 0);
        due.is("noise(0, 0)", air.noise(0, 0), 5);
        due.is("noise(47, 0)", air.noise(47, 0), 6);
    }

    void promise07PlacesThatAreNot() {
        outside("noise(-1, 1)", Scenes::busy, air -> air.noise(-1, 1));
        outside("noise(48, 1)", Scenes::busy, air -> air.noise(48, 1));
        outside("noise(least, 1)", Scenes::busy, air -> air.noise(LEAST, 1));
        outside("noise(greatest, 1)", Scenes::busy, air -> air.noise(GREATEST, 1));
    }

    void promise07ThePlaceAheadOfTheLevel() {
        outside("noise(48, 41)", Scenes::busy, air -> air.noise(48, 41));
        outside("noise(-1, -1)", Scenes::busy, air -> air.noise(-1, -1));
    }

    /** What was is what was told, without the 3 more of a place in the dark, which only the noise now has. */
    void promise07WhatWasIsWithoutThe3More() {
        SkipRays air = new SkipRays();
        due.is("light at 0", air.light(0, 0), 0);
        due.is("noise(0, 4)", air.noise(0, 4), 0);
        air.pass(12);
        due.is("light at 0", air.light(0, 0), 6);
        due.is("noise(0, 4)", air.noise(0, 4), 4);
    }

    // ---- promise 8: pass

    void promise08HoursThatAreAllowed() {
        SkipRays air = new SkipRays();
        due.is("pass(1)", air.pass(1), 1);
        due.is("pass(48)", air.pass(48), 49);
        due.is("pass(2)", air.pass(2), 51);
        due.is("pass(47)", air.pass(47), 98);
    }

    void promise08HoursThatAreNot() {
        refused("pass(0)", Scenes::busy, air -> air.pass(0));
        refused("pass(49)", Scenes::busy, air -> air.pass(49));
        refused("pass(-1)", Scenes::busy, air -> air.pass(-1));
        refused("pass(least)", Scenes::busy, air -> air.pass(LEAST));
        refused("pass(greatest)", Scenes::busy, air -> air.pass(GREATEST));
    }

    void promise08TheLastHourIs5000() {
        due.is("pass(1) at 4999", Scenes.at(4999).pass(1), 5000);
        due.is("pass(48) at 4952", Scenes.at(4952).pass(48), 5000);
        due.is("pass(47) at 4952", Scenes.at(4952).pass(47), 4999);
    }

    void promise08AboveTheLastHour() {
        full("pass(1) at 5000", Scenes::late, air -> air.pass(1));
        full("pass(48) at 5000", Scenes::late, air -> air.pass(48));
        full("pass(2) at 4999", () -> Scenes.at(4999), air -> air.pass(2));
        full("pass(48) at 4953", () -> Scenes.at(4953), air -> air.pass(48));
    }

    void promise08TheRangeAheadOfTheLastHour() {
        refused("pass(0) at 5000", Scenes::late, air -> air.pass(0));
        refused("pass(49) at 5000", Scenes::late, air -> air.pass(49));
        refused("pass(-1) at 5000", Scenes::late, air -> air.pass(-1));
        refused("pass(greatest) at 5000", Scenes::late, air -> air.pass(GREATEST));
    }

    void promise08AfterARefusedOneAShorterOneGoesBy() {
        SkipRays air = Scenes.at(4998);
        due.full("pass(3) at 4998", () -> air.pass(3));
        due.is("pass(2) at 4998", air.pass(2), 5000);
        due.full("pass(1) at 5000", () -> air.pass(1));
        due.is("the hour", air.hour(), 5000);
    }

    void promise08ManyHoursAreAsHourByHour() {
        int[] hours = {2, 3, 4, 7, 24, 48};
        for (int n = 0; n < hours.length; n++) {
            SkipRays atOnce = Scenes.busy();
            SkipRays byOnes = Scenes.busy();
            atOnce.pass(hours[n]);
            for (int gone = 0; gone < hours[n]; gone++) {
                byOnes.pass(1);
            }
            alike(hours[n] + " hours", atOnce, byOnes);
        }
    }

    void promise08ADayWrapsRound() {
        SkipRays air = new SkipRays();
        air.pass(23);
        due.is("E over 0 at 23", air.density(0, E), 10);
        due.is("E over 26 at 23, its hour 12", air.density(26, E), 46);
        air.pass(1);
        due.is("E over 24 at 24, its hour 12", air.density(24, E), 46);
        due.is("E over 26 at 24, its hour 13", air.density(26, E), 40);
        air.pass(12);
        due.is("E over 0 at 36, its hour 12", air.density(0, E), 46);
        due.is("E over 47 at 36, its hour 11", air.density(47, E), 40);
    }
}
