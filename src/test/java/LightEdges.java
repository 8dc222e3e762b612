/** Boundary cases of the hour, the light and the densities: promises 14 to 16. */
final class LightEdges extends Edges {
    private static final int D = SkipRays.D;
    private static final int E = SkipRays.E;
    private static final int F = SkipRays.F;
    private static final int LEAST = Integer.MIN_VALUE;
    private static final int GREATEST = Integer.MAX_VALUE;
    private static final int[] LIGHT_BY_HOUR =
            {0, 0, 0, 0, 0, 0, 0, 1, 2, 3, 4, 5, 6, 5, 4, 3, 2, 1, 0, 0, 0, 0, 0, 0};

    LightEdges(Due due, int[] tests) {
        super(due, tests);
    }

    // ---- promise 14: hour

    void promise14CountedFrom0() {
        SkipRays air = new SkipRays();
        due.is("at first", air.hour(), 0);
        air.pass(1);
        due.is("an hour later", air.hour(), 1);
    }

    void promise14GoesOnBehindADay() {
        SkipRays air = new SkipRays();
        air.pass(24);
        due.is("a day later", air.hour(), 24);
        air.pass(48);
        due.is("three days later", air.hour(), 72);
    }

    void promise14AtMost5000() {
        SkipRays air = Scenes.late();
        due.is("at last", air.hour(), 5000);
        due.full("pass(1)", () -> air.pass(1));
        due.is("still", air.hour(), 5000);
    }

    void promise14ARefusedCallIsNoHour() {
        SkipRays air = new SkipRays();
        due.refused("pass(0)", () -> air.pass(0));
        due.refused("pass(49)", () -> air.pass(49));
        due.is("the hour", air.hour(), 0);
    }

    void promise14NothingElseIsAnHour() {
        SkipRays air = Scenes.full();
        air.listen(0);
        air.storm(1, 1);
        due.is("the hour", air.hour(), 0);
    }

    void promise14AQuestionChangesNothing() {
        asking("hour", Scenes::busy, air -> {
            air.hour();
            air.hour();
        });
    }

    // ---- promise 15: light

    void promise15SixLessHowFarFrom12AtLeast0() {
        for (int local = 0; local < 24; local++) {
            due.is("light at the local hour " + local, new SkipRays().light(2 * local, 0), LIGHT_BY_HOUR[local]);
        }
    }

    void promise15HalfOfThePlaceRoundedDown() {
        SkipRays air = new SkipRays();
        due.is("light at 13, local hour 6", air.light(13, 0), 0);
        due.is("light at 14, local hour 7", air.light(14, 0), 1);
        due.is("light at 15, local hour 7", air.light(15, 0), 1);
        due.is("light at 16, local hour 8", air.light(16, 0), 2);
        due.is("light at 24, local hour 12", air.light(24, 0), 6);
        due.is("light at 25, local hour 12", air.light(25, 0), 6);
        due.is("light at 35, local hour 17", air.light(35, 0), 1);
        due.is("light at 36, local hour 18", air.light(36, 0), 0);
    }

    void promise15TheLocalHourIsModulo24() {
        SkipRays air = new SkipRays();
        due.is("light at 47, local hour 23", air.light(47, 0), 0);
        due.is("light at 47 in 1, local hour 0", air.light(47, 1), 0);
        due.is("light at 47 in 7, local hour 6", air.light(47, 7), 0);
        due.is("light at 47 in 8, local hour 7", air.light(47, 8), 1);
        due.is("light at 47 in 13, local hour 12", air.light(47, 13), 6);
        due.is("light at 47 in 24, local hour 23", air.light(47, 24), 0);
        due.is("light at 24 in 24, local hour 12", air.light(24, 24), 6);
    }

    void promise15PlacesThatAreThere() {
        SkipRays air = Scenes.at(12);
        due.is("light at 0", air.light(0, 0), 6);
        due.is("light at 47", air.light(47, 0), 5);
    }

    void promise15PlacesThatAreNot() {
        outside("light(-1, 0)", Scenes::busy, air -> air.light(-1, 0));
        outside("light(48, 0)", Scenes::busy, air -> air.light(48, 0));
        outside("light(least, 0)", Scenes::busy, air -> air.light(LEAST, 0));
        outside("light(greatest, 0)", Scenes::busy, air -> air.light(GREATEST, 0));
    }

    void promise15LatersThatAreAllowed() {
        SkipRays air = Scenes.at(12);
        due.is("light(0, 0)", air.light(0, 0), 6);
        due.is("light(0, 1)", air.light(0, 1), 5);
        due.is("light(0, 23)", air.light(0, 23), 5);
        due.is("light(0, 24)", air.light(0, 24), 6);
    }

    void promise15LatersThatAreNot() {
        refused("light(0, -1)", Scenes::busy, air -> air.light(0, -1));
        refused("light(0, 25)", Scenes::busy, air -> air.light(0, 25));
        refused("light(0, least)", Scenes::busy, air -> air.light(0, LEAST));
        refused("light(0, greatest)", Scenes::busy, air -> air.light(0, GREATEST));
    }

    void promise15ThePlaceAheadOfTheRange() {
        outside("light(48, 25)", Scenes::busy, air -> air.light(48, 25));
        outside("light(-1, -1)", Scenes::busy, air -> air.light(-1, -1));
    }

    void promise15LaterIsAsWhenTheHoursHaveGoneBy() {
        for (int later = 1; later <= 24; later++) {
            SkipRays air = new SkipRays();
            int told = air.light(47, later);
            air.pass(later);
            due.is("light at 47, " + later + " hours later", air.light(47, 0), told);
        }
    }

    /** 5000 hours are 208 days and 8 hours. */
    void promise15BehindTheLastHour() {
        SkipRays air = Scenes.at(Scenes.LAST_HOUR);
        due.is("light at 0", air.light(0, 0), 2);
        due.is("light at 0 in 4", air.light(0, 4), 6);
        due.is("light at 0 in 24", air.light(0, 24), 2);
    }

    void promise15AQuestionChangesNothing() {
        asking("light", Scenes::busy, air -> {
            for (int later = 0; later <= 24; later++) {
                air.light(later, later);
            }
        });
    }

    // ---- promise 16: density

    void promise16LayersThatAreThere() {
        SkipRays air = new SkipRays();
        due.is("D", air.density(24, D), 12);
        due.is("E", air.density(24, E), 46);
        due.is("F", air.density(24, F), 85);
    }

    void promise16LayersThatAreNot() {
        refused("density(0, -1)", Scenes::busy, air -> air.density(0, -1));
        refused("density(0, 3)", Scenes::busy, air -> air.density(0, 3));
        refused("density(0, least)", Scenes::busy, air -> air.density(0, LEAST));
        refused("density(0, greatest)", Scenes::busy, air -> air.density(0, GREATEST));
    }

    void promise16PlacesThatAreThere() {
        SkipRays air = Scenes.at(12);
        due.is("D over 0, light 6", air.density(0, D), 12);
        due.is("D over 47, light 5", air.density(47, D), 10);
        due.is("E over 47", air.density(47, E), 40);
        due.is("F over 47", air.density(47, F), 80);
    }

    void promise16PlacesThatAreNot() {
        outside("density(-1, D)", Scenes::busy, air -> air.density(-1, D));
        outside("density(48, F)", Scenes::busy, air -> air.density(48, F));
        outside("density(least, E)", Scenes::busy, air -> air.density(LEAST, E));
        outside("density(greatest, E)", Scenes::busy, air -> air.density(GREATEST, E));
    }

    void promise16ThePlaceAheadOfTheLayer() {
        outside("density(48, 3)", Scenes::busy, air -> air.density(48, 3));
        outside("density(-1, -1)", Scenes::busy, air -> air.density(-1, -1));
    }

    void promise16WithoutLight() {
        SkipRays air = new SkipRays();
        air.flare(80);
        due.is("D", air.density(0, D), 0);
        due.is("E", air.density(0, E), 10);
        due.is("F", air.density(0, F), 42);
    }

    void promise16TheLeastAndTheGreatestOfAll() {
        SkipRays least = new SkipRays();
        least.sun(0);
        least.storm(60, 1);
        due.is("F at least", least.density(0, F), 5);
        due.is("F by full light", least.density(24, F), 5);
        SkipRays most = new SkipRays();
        most.sun(100);
        most.flare(80);
        most.cloud(24, 100, 1);
        due.is("D at most", most.density(24, D), 92);
        due.is("E at most", most.density(24, E), 146);
        due.is("F at most", most.density(24, F), 110);
    }

    void promise16FAtLeast5IsForTheWholeSum() {
        SkipRays air = new SkipRays();
        air.sun(100);
        air.storm(50, 1);
        due.is("55 less 50", air.density(0, F), 5);
        air.storm(49, 1);
        due.is("55 less 49", air.density(0, F), 6);
        air.storm(51, 1);
        due.is("55 less 51", air.density(0, F), 5);
        air.sun(0);
        due.is("30 less 51", air.density(0, F), 5);
        air.sun(100);
        due.is("110 less 51", air.density(24, F), 59);
    }

    void promise16AQuestionChangesNothing() {
        asking("density", Scenes::busy, air -> {
            for (int place = 0; place < 48; place++) {
                air.density(place, place % 3);
            }
        });
    }
}
