/**
 * Boundary cases of paths: promises 19 to 22. In the dark a leg takes 2 and its length; on 100 only F bends there,
 * the angles 1 to 5, by 5, 4, 4, 3 and 3 places.
 */
final class PathEdges extends Edges {
    private static final int EAST = SkipRays.EAST;
    private static final int WEST = SkipRays.WEST;
    private static final int NONE = SkipRays.NONE;
    private static final int LEAST = Integer.MIN_VALUE;
    private static final int GREATEST = Integer.MAX_VALUE;

    PathEdges(Due due, int[] tests) {
        super(due, tests);
    }

    private void tells(SkipRays air, int from, int to, int frequency, int strength, int path, int... wants) {
        for (int what = 0; what < wants.length; what++) {
            due.is("path " + path + " from " + from + " to " + to + " on " + frequency + " with " + strength + ", "
                    + what, air.path(from, to, frequency, strength, path, what), wants[what]);
        }
    }

    // ---- promise 19: paths

    void promise19PlacesThatAreThere() {
        SkipRays air = new SkipRays();
        due.is("from 0", air.paths(0, 5, 100, 7), 1);
        due.is("from 47", air.paths(47, 42, 100, 7), 1);
        due.is("to 0", air.paths(5, 0, 100, 7), 1);
        due.is("to 47", air.paths(42, 47, 100, 7), 1);
    }

    void promise19PlacesThatAreNot() {
        outside("from -1", Scenes::busy, air -> air.paths(-1, 0, 100, 7));
        outside("from 48", Scenes::busy, air -> air.paths(48, 0, 100, 7));
        outside("to -1", Scenes::busy, air -> air.paths(0, -1, 100, 7));
        outside("to 48", Scenes::busy, air -> air.paths(0, 48, 100, 7));
        outside("from least", Scenes::busy, air -> air.paths(LEAST, 0, 100, 7));
        outside("to greatest", Scenes::busy, air -> air.paths(0, GREATEST, 100, 7));
    }

    void promise19FrequenciesThatAreAllowed() {
        SkipRays air = new SkipRays();
        due.is("on 10", air.paths(40, 42, 10, 100), 6);
        due.is("on 300", air.paths(40, 45, 300, 100), 0);
        air.sun(100);
        due.is("on 300 by light", air.paths(24, 29, 300, 100), 1);
    }

    void promise19FrequenciesThatAreNot() {
        refused("on 9", Scenes::busy, air -> air.paths(0, 5, 9, 7));
        refused("on 301", Scenes::busy, air -> air.paths(0, 5, 301, 7));
        refused("on 0", Scenes::busy, air -> air.paths(0, 5, 0, 7));
        refused("on least", Scenes::busy, air -> air.paths(0, 5, LEAST, 7));
        refused("on greatest", Scenes::busy, air -> air.paths(0, 5, GREATEST, 7));
    }

    void promise19StrengthsThatAreAllowed() {
        SkipRays air = new SkipRays();
        due.is("with 0", air.paths(40, 40, 10, 0), 0);
        due.is("with 100", air.paths(40, 40, 10, 100), 6);
    }

    void promise19StrengthsThatAreNot() {
        refused("with -1", Scenes::busy, air -> air.paths(0, 5, 100, -1));
        refused("with 101", Scenes::busy, air -> air.paths(0, 5, 100, 101));
        refused("with least", Scenes::busy, air -> air.paths(0, 5, 100, LEAST));
        refused("with greatest", Scenes::busy, air -> air.paths(0, 5, 100, GREATEST));
    }

    void promise19ThePlacesAheadOfTheRanges() {
        outside("from 48 on 9", Scenes::busy, air -> air.paths(48, 0, 9, 7));
        outside("to 48 with 101", Scenes::busy, air -> air.paths(0, 48, 100, 101));
        outside("from -1 to -1 on 301 with -1", Scenes::busy, air -> air.paths(-1, -1, 301, -1));
    }

    void promise19Below0ByALegIsAbsorbed() {
        SkipRays air = new SkipRays();
        due.is("7 taken of 7", air.paths(40, 45, 100, 7), 1);
        due.is("7 taken of 6", air.paths(40, 45, 100, 6), 0);
        due.is("2 taken of 2, legs of 0 places", air.paths(40, 40, 10, 2), 6);
        due.is("2 taken of 1", air.paths(40, 40, 10, 1), 0);
    }

    /** A leg of 7, the ground's 6, a leg of 7: what is left ahead of the ground, behind it, at the end. */
    void promise19Below0ByTheGroundIsAbsorbed() {
        SkipRays air = new SkipRays();
        due.is("5 left for the ground's 6", air.paths(40, 2, 100, 12), 0);
        due.is("6 left for the ground's 6", air.paths(40, 2, 100, 13), 0);
        due.is("6 left for the leg's 7", air.paths(40, 2, 100, 19), 0);
        due.is("7 left for the leg's 7", air.paths(40, 2, 100, 20), 1);
    }

    void promise19TheGroundAheadOfEachLegButTheFirst() {
        SkipRays air = new SkipRays();
        air.sea(40, true);
        air.sea(2, true);
        due.is("sea where it begins and ends", air.paths(40, 2, 100, 19), 0);
        due.is("land between", air.paths(40, 2, 100, 20), 1);
        air.sea(45, true);
        due.is("sea between", air.paths(40, 2, 100, 17), 1);
        due.is("sea between, too weak", air.paths(40, 2, 100, 16), 0);
        air.sea(45, false);
        due.is("land between again", air.paths(40, 2, 100, 19), 0);
    }

    /** D over 24 is 12, so a leg of 0 places takes 2, and 24 * 40 / the frequency. */
    void promise19DTakesADivisionRoundedDown() {
        int[] frequencies = {80, 79, 70, 65, 64, 50};
        int[] taken = {14, 14, 15, 16, 17, 21};
        for (int n = 0; n < frequencies.length; n++) {
            SkipRays air = new SkipRays();
            due.is("on " + frequencies[n], air.paths(24, 24, frequencies[n], taken[n]) > 0, true);
            due.is("on " + frequencies[n] + ", too weak", air.paths(24, 24, frequencies[n], taken[n] - 1), 0);
        }
    }

    /** D over 14 is 2, over 9 it is 0: 2 * 40 / 80 is 1, on 81 it is 0. */
    void promise19DOfBothEnds() {
        SkipRays air = new SkipRays();
        due.is("out of the dark on 80", air.paths(9, 14, 80, 8), 1);
        due.is("out of the dark on 80, too weak", air.paths(9, 14, 80, 7), 0);
        due.is("out of the dark on 81", air.paths(9, 14, 81, 7), 1);
        due.is("into the dark on 80", air.paths(14, 9, 80, 8), 1);
        due.is("into the dark on 80, too weak", air.paths(14, 9, 80, 7), 0);
        due.is("into the dark on 81", air.paths(14, 9, 81, 7), 1);
    }

    /** Each division by itself would be 17 * 40 / 300 and 13 * 40 / 300, rounded 2 and 1. */
    void promise19DOfBothEndsTogetherAheadOfTheDivision() {
        SkipRays air = new SkipRays();
        air.flare(5);
        due.is("D over 24", air.density(24, SkipRays.D), 17);
        due.is("D over 29", air.density(29, SkipRays.D), 13);
        due.is("30 * 40 / 300 is 4, not 2 and 1", air.paths(24, 29, 300, 10), 0);
        due.is("30 * 40 / 300 is 4", air.paths(24, 29, 300, 11), 1);
    }

    /** Legs of 0 places come to the end of ten legs there. */
    void promise19EndsWithTheFirstSuchLeg() {
        SkipRays air = Scenes.wet();
        due.is("to itself", air.paths(40, 40, 10, 100), 6);
        tells(air, 40, 40, 10, 100, 0, EAST, 7, 1, 1, 98, 2);
    }

    /** On 50 angle 8 goes by legs of 1 place, which take 3, ahead of 9 of them the sea 3. */
    void promise19AtMost10Legs() {
        SkipRays air = Scenes.wet();
        due.is("10 legs", air.paths(36, 46, 50, 57), 4);
        due.is("10 legs, too weak", air.paths(36, 46, 50, 56), 3);
        due.is("11 legs", air.paths(36, 47, 50, 100), 0);
        due.is("10 legs to the west", air.paths(10, 0, 50, 57), 4);
        due.is("11 legs to the west", air.paths(10, 47, 50, 100), 0);
    }

    void promise19ByALongerWayIsNoOtherDirection() {
        SkipRays air = new SkipRays();
        due.is("5 places to the east", air.paths(40, 45, 100, 100), 1);
        tells(air, 40, 45, 100, 100, 0, EAST);
        due.is("5 places to the west", air.paths(45, 40, 100, 100), 1);
        tells(air, 45, 40, 100, 100, 0, WEST);
    }

    void promise19RoundTheRingsRim() {
        SkipRays air = new SkipRays();
        due.is("45 to 2", air.paths(45, 2, 100, 7), 1);
        due.is("45 to 2, too weak", air.paths(45, 2, 100, 6), 0);
        due.is("2 to 45", air.paths(2, 45, 100, 7), 1);
        due.is("2 to 45, too weak", air.paths(2, 45, 100, 6), 0);
    }

    void promise19NoneWhenAllAreLost() {
        SkipRays air = new SkipRays();
        due.is("on 176", air.paths(40, 45, 176, 100), 1);
        due.is("on 177", air.paths(40, 45, 177, 100), 0);
        due.is("no place of a leg", air.paths(40, 41, 100, 100), 0);
        due.is("to itself on 100", air.paths(40, 40, 100, 100), 0);
    }

    void promise19InTheAirAsItIsNow() {
        SkipRays air = new SkipRays();
        air.storm(19, 1);
        due.is("in a storm of 19", air.paths(40, 45, 100, 7), 0);
        air.storm(18, 1);
        due.is("in a storm of 18", air.paths(40, 45, 100, 7), 1);
        air.cloud(41, 90, 1);
        due.is("under a cloud, by E", air.paths(40, 42, 100, 4), 2);
        air.pass(1);
        due.is("when it is over", air.paths(40, 42, 100, 4), 0);
    }

    void promise19AQuestionChangesNothing() {
        asking("paths", Scenes::busy, air -> {
            for (int n = 0; n < 48; n++) {
                air.paths(n, 47 - n, 10 + 6 * n, 2 * n);
            }
        });
    }

    // ---- promise 20: path

    void promise20PlacesThatAreThere() {
        SkipRays air = new SkipRays();
        tells(air, 0, 5, 100, 7, 0, EAST, 1, 1, 0, 0, 55);
        tells(air, 47, 42, 100, 7, 0, WEST, 1, 1, 0, 0, 55);
        tells(air, 5, 0, 100, 7, 0, WEST, 1, 1, 0, 0, 55);
        tells(air, 42, 47, 100, 7, 0, EAST, 1, 1, 0, 0, 55);
        tells(air, 45, 2, 100, 7, 0, EAST, 1, 1, 0, 0, 55);
    }

    void promise20PlacesThatAreNot() {
        outside("from -1", Scenes::busy, air -> air.path(-1, 45, 100, 100, 0, 0));
        outside("from 48", Scenes::busy, air -> air.path(48, 45, 100, 100, 0, 0));
        outside("to -1", Scenes::busy, air -> air.path(40, -1, 100, 100, 0, 0));
        outside("to 48", Scenes::busy, air -> air.path(40, 48, 100, 100, 0, 0));
        outside("from greatest", Scenes::busy, air -> air.path(GREATEST, 45, 100, 100, 0, 0));
        outside("to least", Scenes::busy, air -> air.path(40, LEAST, 100, 100, 0, 0));
    }

    void promise20FrequenciesThatAreAllowed() {
        SkipRays air = new SkipRays();
        air.sun(100);
        tells(air, 40, 42, 10, 4, 0, EAST, 1, 1, 1, 0, 22);
        tells(air, 24, 29, 300, 9, 0, EAST, 1, 1, 0, 0, 55);
    }

    void promise20FrequenciesThatAreNot() {
        refused("on 9", Scenes::fresh, air -> air.path(40, 45, 9, 7, 0, 0));
        refused("on 301", Scenes::fresh, air -> air.path(40, 45, 301, 7, 0, 0));
        refused("on 0", Scenes::fresh, air -> air.path(40, 45, 0, 7, 0, 0));
        refused("on greatest", Scenes::fresh, air -> air.path(40, 45, GREATEST, 7, 0, 0));
    }

    void promise20StrengthsThatAreAllowed() {
        SkipRays air = new SkipRays();
        tells(air, 40, 45, 100, 100, 0, EAST, 1, 1, 0, 93, 55);
        tells(air, 40, 45, 100, 7, 0, EAST, 1, 1, 0, 0, 55);
        outside("with 0 there is none", Scenes::fresh, other -> other.path(40, 45, 100, 0, 0, 0));
    }

    void promise20StrengthsThatAreNot() {
        refused("with -1", Scenes::fresh, air -> air.path(40, 45, 100, -1, 0, 0));
        refused("with 101", Scenes::fresh, air -> air.path(40, 45, 100, 101, 0, 0));
        refused("with least", Scenes::fresh, air -> air.path(40, 45, 100, LEAST, 0, 0));
        refused("with greatest", Scenes::fresh, air -> air.path(40, 45, 100, GREATEST, 0, 0));
    }

    void promise20WhatIs0To5() {
        SkipRays air = new SkipRays();
        due.is("0, the direction", air.path(4, 40, 100, 38, 2, 0), WEST);
        due.is("1, the angle", air.path(4, 40, 100, 38, 2, 1), 4);
        due.is("2, the legs", air.path(4, 40, 100, 38, 2, 2), 4);
        due.is("3, those by E", air.path(4, 40, 100, 38, 2, 3), 0);
        due.is("4, the strength", air.path(4, 40, 100, 38, 2, 4), 0);
        due.is("5, the delay", air.path(4, 40, 100, 38, 2, 5), 140);
        refused("-1", Scenes::fresh, other -> other.path(4, 40, 100, 38, 2, -1));
        refused("6", Scenes::fresh, other -> other.path(4, 40, 100, 38, 2, 6));
        refused("least", Scenes::fresh, other -> other.path(4, 40, 100, 38, 2, LEAST));
        refused("greatest", Scenes::fresh, other -> other.path(4, 40, 100, 38, 2, GREATEST));
    }

    void promise20NumbersThatAreThere() {
        SkipRays air = new SkipRays();
        due.is("how many", air.paths(40, 4, 100, 38), 4);
        tells(air, 40, 4, 100, 38, 0, EAST, 2);
        tells(air, 40, 4, 100, 38, 3, EAST, 5);
    }

    void promise20NumbersThatAreNot() {
        outside("-1 of 4", Scenes::fresh, air -> air.path(40, 4, 100, 38, -1, 0));
        outside("4 of 4", Scenes::fresh, air -> air.path(40, 4, 100, 38, 4, 0));
        outside("0 of none", Scenes::fresh, air -> air.path(40, 41, 100, 38, 0, 0));
        outside("18", Scenes::fresh, air -> air.path(40, 4, 100, 38, 18, 0));
        outside("least", Scenes::fresh, air -> air.path(40, 4, 100, 38, LEAST, 0));
        outside("greatest", Scenes::fresh, air -> air.path(40, 4, 100, 38, GREATEST, 0));
        outside("2 of 2, too weak for the others", Scenes::fresh, air -> air.path(40, 4, 100, 37, 2, 0));
    }

    void promise20ThePlacesAheadOfTheRanges() {
        outside("from 48 on 9", Scenes::fresh, air -> air.path(48, 45, 9, 7, 0, 0));
        outside("to 48 with 101", Scenes::fresh, air -> air.path(40, 48, 100, 101, 0, 0));
        outside("to -1, what 6", Scenes::fresh, air -> air.path(40, -1, 100, 7, 0, 6));
    }

    /** No such path, but with frequency, strength and what in their ranges only. */
    void promise20TheRangesAheadOfTheNumber() {
        refused("on 9, path 9", Scenes::fresh, air -> air.path(40, 45, 9, 7, 9, 0));
        refused("on 301, path -1", Scenes::fresh, air -> air.path(40, 45, 301, 7, -1, 0));
        refused("with 101, path 9", Scenes::fresh, air -> air.path(40, 45, 100, 101, 9, 0));
        refused("with -1, path -1", Scenes::fresh, air -> air.path(40, 45, 100, -1, -1, 0));
        refused("what 6, path 9", Scenes::fresh, air -> air.path(40, 45, 100, 7, 9, 6));
        refused("what -1, path -1", Scenes::fresh, air -> air.path(40, 45, 100, 7, -1, -1));
    }

    /** To itself both directions come there: the angles 7 to 9 to the east, then the same to the west. */
    void promise20EastByRisingAnglesThenWestLikewise() {
        SkipRays air = new SkipRays();
        int[] directions = {EAST, EAST, EAST, WEST, WEST, WEST};
        int[] angles = {7, 8, 9, 7, 8, 9};
        for (int path = 0; path < 6; path++) {
            tells(air, 40, 40, 10, 2, path, directions[path], angles[path], 1, 1, 0, 2);
        }
        outside("a 7th", Scenes::fresh, other -> other.path(40, 40, 10, 2, 6, 0));
    }

    /** 10 times the length, and 2 by E, 5 by F, of each leg. */
    void promise20TheDelayOfLegsByEAndByF() {
        SkipRays air = new SkipRays();
        air.cloud(41, 90, 1);
        tells(air, 40, 42, 100, 4, 0, EAST, 1, 1, 1, 0, 22);
        tells(air, 40, 47, 100, 17, 0, EAST, 1, 2, 1, 0, 77);
        tells(air, 40, 4, 100, 30, 0, EAST, 1, 3, 1, 0, 132);
    }

    void promise20TenLegs() {
        SkipRays air = Scenes.wet();
        tells(air, 36, 46, 50, 57, 3, EAST, 8, 10, 0, 0, 150);
        tells(air, 10, 0, 50, 57, 3, WEST, 8, 10, 0, 0, 150);
    }

    void promise20AQuestionChangesNothing() {
        asking("path", Scenes::busy, air -> {
            for (int path = 0; path < air.paths(45, 40, 100, 100); path++) {
                for (int what = 0; what <= 5; what++) {
                    air.path(45, 40, 100, 100, path, what);
                }
            }
        });
    }

    // ---- promise 21: explain

    void promise21PlacesThatAreThere() {
        SkipRays air = new SkipRays();
        due.is("from 0", air.explain(0, 5, 100, 7, 55), 0);
        due.is("from 47", air.explain(47, 42, 100, 7, 55), 0);
        due.is("to 0", air.explain(5, 0, 100, 7, 55), 0);
        due.is("to 47", air.explain(42, 47, 100, 7, 55), 0);
    }

    void promise21PlacesThatAreNot() {
        outside("from -1", Scenes::busy, air -> air.explain(-1, 45, 100, 100, 0));
        outside("from 48", Scenes::busy, air -> air.explain(48, 45, 100, 100, 0));
        outside("to -1", Scenes::busy, air -> air.explain(40, -1, 100, 100, 0));
        outside("to 48", Scenes::busy, air -> air.explain(40, 48, 100, 100, 0));
        outside("from least", Scenes::busy, air -> air.explain(LEAST, 45, 100, 100, 0));
        outside("to greatest", Scenes::busy, air -> air.explain(40, GREATEST, 100, 100, 0));
    }

    void promise21RangesThatAreNot() {
        refused("on 9", Scenes::busy, air -> air.explain(40, 45, 9, 100, 0));
        refused("on 301", Scenes::busy, air -> air.explain(40, 45, 301, 100, 0));
        refused("with -1", Scenes::busy, air -> air.explain(40, 45, 100, -1, 0));
        refused("with 101", Scenes::busy, air -> air.explain(40, 45, 100, 101, 0));
        refused("delay -1", Scenes::busy, air -> air.explain(40, 45, 100, 100, -1));
        refused("delay 1001", Scenes::busy, air -> air.explain(40, 45, 100, 100, 1001));
        refused("delay least", Scenes::busy, air -> air.explain(40, 45, 100, 100, LEAST));
        refused("delay greatest", Scenes::busy, air -> air.explain(40, 45, 100, 100, GREATEST));
    }

    void promise21TheRangesAlsoWithoutAPath() {
        refused("delay 1001, no path", Scenes::fresh, air -> air.explain(40, 41, 100, 0, 1001));
        refused("on 301, no path", Scenes::fresh, air -> air.explain(40, 41, 301, 0, 0));
    }

    void promise21ThePlacesAheadOfTheRanges() {
        outside("from 48 on 9", Scenes::busy, air -> air.explain(48, 45, 9, 100, 0));
        outside("to 48 with 101", Scenes::busy, air -> air.explain(40, 48, 100, 101, 0));
        outside("to -1, delay 1001", Scenes::busy, air -> air.explain(40, -1, 100, 100, 1001));
    }

    void promise21FrequenciesAndStrengthsThatAreAllowed() {
        SkipRays air = new SkipRays();
        air.sun(100);
        due.is("on 10 with 100", air.explain(40, 42, 10, 100, 22), 0);
        due.is("on 300 with 9", air.explain(24, 29, 300, 9, 55), 0);
        due.is("on 300 with 0", air.explain(24, 29, 300, 0, 55), NONE);
    }

    void promise21DelaysThatAreAllowed() {
        SkipRays air = new SkipRays();
        due.is("0", air.explain(40, 4, 100, 40, 0), 0);
        due.is("1000", air.explain(40, 4, 100, 40, 1000), 2);
    }

    /** The delays of the four paths are 135, 135, 140, 140. */
    void promise21OfSeveralTheFirstOne() {
        SkipRays air = new SkipRays();
        due.is("135", air.explain(40, 4, 100, 40, 135), 0);
        due.is("140", air.explain(40, 4, 100, 40, 140), 2);
        due.is("137, nearer to 135", air.explain(40, 4, 100, 40, 137), 0);
        due.is("138, nearer to 140", air.explain(40, 4, 100, 40, 138), 2);
    }

    /** Of the delays 22 of the paths 0 and 1, and 24 of the others. */
    void promise21AsNearFromBothSides() {
        SkipRays air = new SkipRays();
        due.is("23", air.explain(40, 42, 10, 12, 23), 0);
        due.is("22", air.explain(40, 42, 10, 12, 22), 0);
        due.is("24", air.explain(40, 42, 10, 12, 24), 2);
    }

    /** By E in steps of 2 places the angles 1 and 2, of 1 place angle 3, then by F. */
    void promise21AsNearThoughTheFirstOneIsLonger() {
        SkipRays air = new SkipRays();
        int[] delays = {66, 66, 72, 70, 70, 75, 75, 90, 90};
        due.is("how many", air.paths(40, 46, 34, 100), delays.length);
        for (int path = 0; path < delays.length; path++) {
            due.is("the delay of " + path, air.path(40, 46, 34, 100, path, 5), delays[path]);
        }
        due.is("68", air.explain(40, 46, 34, 100, 68), 0);
        due.is("69", air.explain(40, 46, 34, 100, 69), 3);
        due.is("71", air.explain(40, 46, 34, 100, 71), 2);
        due.is("73", air.explain(40, 46, 34, 100, 73), 2);
        due.is("74", air.explain(40, 46, 34, 100, 74), 5);
        due.is("82", air.explain(40, 46, 34, 100, 82), 5);
        due.is("83", air.explain(40, 46, 34, 100, 83), 7);
    }

    void promise21NoneWithoutAPath() {
        SkipRays air = new SkipRays();
        due.is("too weak", air.explain(40, 4, 100, 29, 135), NONE);
        due.is("strong enough", air.explain(40, 4, 100, 30, 135), 0);
        due.is("lost", air.explain(40, 45, 177, 100, 55), NONE);
        due.is("no place of a leg", air.explain(40, 41, 100, 100, 0), NONE);
    }

    /** By E under a cloud the delay is another one; in a storm there is no path. */
    void promise21InTheAirAsItIsNow() {
        SkipRays air = new SkipRays();
        due.is("2 places on 100", air.explain(40, 42, 100, 4, 22), NONE);
        air.cloud(41, 90, 1);
        due.is("under a cloud", air.explain(40, 42, 100, 4, 22), 0);
        air.pass(1);
        due.is("when it is over", air.explain(40, 42, 100, 4, 22), NONE);
        due.is("5 places on 100", air.explain(40, 45, 100, 7, 55), 0);
        air.storm(60, 1);
        due.is("in a storm", air.explain(40, 45, 100, 7, 55), NONE);
    }

    void promise21AQuestionChangesNothing() {
        asking("explain", Scenes::busy, air -> {
            for (int n = 0; n < 48; n++) {
                air.explain(n, 47 - n, 10 + 6 * n, 100, 20 * n);
            }
        });
    }

    // ---- promise 22: usable

    void promise22PlacesThatAreThere() {
        SkipRays air = new SkipRays();
        due.is("from 0", air.usable(0, 5, 7, true), 170);
        due.is("from 47", air.usable(47, 42, 7, true), 170);
        due.is("to 0", air.usable(5, 0, 7, false), 50);
        due.is("to 47", air.usable(42, 47, 7, false), 50);
    }

    void promise22PlacesThatAreNot() {
        outside("from -1", Scenes::busy, air -> air.usable(-1, 45, 100, true));
        outside("from 48", Scenes::busy, air -> air.usable(48, 45, 100, false));
        outside("to -1", Scenes::busy, air -> air.usable(40, -1, 100, true));
        outside("to 48", Scenes::busy, air -> air.usable(40, 48, 100, false));
        outside("from greatest", Scenes::busy, air -> air.usable(GREATEST, 45, 100, true));
        outside("to least", Scenes::busy, air -> air.usable(40, LEAST, 100, true));
    }

    void promise22StrengthsThatAreNot() {
        refused("with -1", Scenes::busy, air -> air.usable(40, 45, -1, true));
        refused("with 101", Scenes::busy, air -> air.usable(40, 45, 101, true));
        refused("with -1, the least", Scenes::busy, air -> air.usable(40, 45, -1, false));
        refused("with 101, the least", Scenes::busy, air -> air.usable(40, 45, 101, false));
        refused("with least", Scenes::busy, air -> air.usable(40, 45, LEAST, true));
        refused("with greatest", Scenes::busy, air -> air.usable(40, 45, GREATEST, true));
    }

    void promise22ThePlacesAheadOfTheStrength() {
        outside("from 48 with 101", Scenes::busy, air -> air.usable(48, 45, 101, true));
        outside("to -1 with -1", Scenes::busy, air -> air.usable(40, -1, -1, false));
    }

    void promise22StrengthsThatAreAllowed() {
        SkipRays air = new SkipRays();
        due.is("with 0", air.usable(40, 45, 0, true), NONE);
        due.is("with 0, the least", air.usable(40, 45, 0, false), NONE);
        due.is("with 100", air.usable(40, 45, 100, true), 170);
    }

    /** The first and the last one that is tried; to itself E bends 10 and no more, up to 18, by legs of 0 places. */
    void promise22From10To300() {
        SkipRays air = new SkipRays();
        due.is("10, the least", air.usable(40, 40, 2, false), 10);
        due.is("10, the greatest too", air.usable(40, 40, 2, true), 10);
        air.sun(100);
        due.is("300, the greatest", air.usable(24, 29, 9, true), 300);
        due.is("270, the least", air.usable(24, 29, 9, false), 270);
    }

    /** By F from 43 on to 176. */
    void promise22OnlyEachTenth() {
        SkipRays air = new SkipRays();
        due.is("on 176", air.paths(40, 45, 176, 7), 1);
        due.is("the greatest", air.usable(40, 45, 7, true), 170);
        due.is("on 43", air.paths(40, 45, 43, 7), 1);
        due.is("the least", air.usable(40, 45, 7, false), 50);
    }

    void promise22NoneIfNoneHasAPath() {
        SkipRays air = new SkipRays();
        due.is("7 for 7", air.usable(40, 45, 7, true), 170);
        due.is("6 for 7", air.usable(40, 45, 6, true), NONE);
        due.is("6 for 7, the least", air.usable(40, 45, 6, false), NONE);
    }

    /** D lets the higher ones alone through: 24 * 40 / 80 and 2 are 14. */
    void promise22TheLeastOneIsNotTheFirstThatIsBent() {
        SkipRays air = new SkipRays();
        due.is("with 14, the least", air.usable(24, 24, 14, false), 80);
        due.is("with 13", air.usable(24, 24, 13, false), NONE);
        due.is("with 98, the least", air.usable(24, 24, 98, false), 10);
        due.is("with 97, the least", air.usable(24, 24, 97, false), 20);
    }

    /** F is 42 in the dark, in a storm of 18 it is 24; E under the cloud is 100. */
    void promise22InTheAirAsItIsNow() {
        SkipRays air = new SkipRays();
        air.storm(18, 1);
        due.is("the greatest in a storm", air.usable(40, 45, 7, true), 100);
        air.pass(1);
        due.is("the greatest when it is over", air.usable(40, 45, 7, true), 170);
        air.cloud(41, 90, 1);
        due.is("the greatest under a cloud, by E", air.usable(40, 42, 4, true), 300);
        air.pass(1);
        due.is("the greatest when it is over, by F and angle 6", air.usable(40, 42, 4, true), 90);
    }

    void promise22AQuestionChangesNothing() {
        asking("usable", Scenes::busy, air -> {
            for (int n = 0; n < 48; n++) {
                air.usable(n, 47 - n, 2 * n, n % 2 == 0);
            }
        });
    }
}
