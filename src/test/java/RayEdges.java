import java.util.function.Supplier;

/**
 * Boundary cases of rays: promises 17, 18 and 23. At the hour 0 the places 36 to 47 and 0 to 13 are dark: E is 10
 * there and F is 42; at 14 and 15 with light 1, E is 16 and F is 60.
 */
final class RayEdges extends Edges {
    private static final boolean TO_EAST = true;
    private static final boolean TO_WEST = false;
    private static final int NONE = SkipRays.NONE;
    private static final int LEAST = Integer.MIN_VALUE;
    private static final int GREATEST = Integer.MAX_VALUE;
    private static final int[] LENGTHS_BY_E = {2, 2, 1, 1, 1, 1, 0, 0, 0};
    private static final int[] LENGTHS_BY_F = {5, 4, 4, 3, 3, 2, 2, 1, 1};

    RayEdges(Due due, int[] tests) {
        super(due, tests);
    }

    private void lands(SkipRays air, int place, boolean east, int angle, int frequency, int leg, int want) {
        String what = (east ? "east" : "west") + " from " + place + ", angle " + angle + ", frequency " + frequency
                + ", leg " + leg;
        due.is("landing " + what, air.landing(place, east, angle, frequency, leg), want);
        due.is("landingAnew " + what, air.landingAnew(place, east, angle, frequency, leg), want);
    }

    private void isOutside(int place, int angle, int frequency, int leg) {
        String what = place + ", angle " + angle + ", frequency " + frequency + ", leg " + leg;
        Supplier<SkipRays> busy = Scenes::busy;
        outside("landing " + what, busy, air -> air.landing(place, TO_EAST, angle, frequency, leg));
        outside("landingAnew " + what, busy, air -> air.landingAnew(place, TO_EAST, angle, frequency, leg));
        outside("landing west " + what, busy, air -> air.landing(place, TO_WEST, angle, frequency, leg));
        outside("landingAnew west " + what, busy, air -> air.landingAnew(place, TO_WEST, angle, frequency, leg));
    }

    private void isRefused(int place, int angle, int frequency, int leg) {
        String what = place + ", angle " + angle + ", frequency " + frequency + ", leg " + leg;
        Supplier<SkipRays> busy = Scenes::busy;
        refused("landing " + what, busy, air -> air.landing(place, TO_EAST, angle, frequency, leg));
        refused("landingAnew " + what, busy, air -> air.landingAnew(place, TO_EAST, angle, frequency, leg));
        refused("landing west " + what, busy, air -> air.landing(place, TO_WEST, angle, frequency, leg));
        refused("landingAnew west " + what, busy, air -> air.landingAnew(place, TO_WEST, angle, frequency, leg));
    }

    // ---- promises 17 and 18: landing, landingAnew

    void promise17And18PlacesThatAreThere() {
        SkipRays air = new SkipRays();
        lands(air, 0, TO_EAST, 1, 100, 1, 5);
        lands(air, 47, TO_WEST, 1, 100, 1, 42);
    }

    void promise17And18PlacesThatAreNot() {
        isOutside(-1, 1, 100, 1);
        isOutside(48, 1, 100, 1);
        isOutside(LEAST, 1, 100, 1);
        isOutside(GREATEST, 1, 100, 1);
    }

    void promise17And18AnglesThatAreAllowed() {
        SkipRays air = new SkipRays();
        lands(air, 40, TO_EAST, 1, 176, 1, 45);
        lands(air, 40, TO_EAST, 9, 42, 1, 41);
        lands(air, 40, TO_WEST, 9, 42, 1, 39);
    }

    void promise17And18AnglesThatAreNot() {
        isRefused(40, 0, 100, 1);
        isRefused(40, 10, 100, 1);
        isRefused(40, -1, 100, 1);
        isRefused(40, LEAST, 100, 1);
        isRefused(40, GREATEST, 100, 1);
    }

    void promise17And18FrequenciesThatAreAllowed() {
        SkipRays air = new SkipRays();
        air.sun(100);
        lands(air, 40, TO_EAST, 1, 10, 1, 42);
        lands(air, 24, TO_EAST, 1, 300, 1, 29);
        lands(air, 24, TO_WEST, 1, 300, 1, 19);
        lands(air, 40, TO_EAST, 1, 300, 1, NONE);
    }

    void promise17And18FrequenciesThatAreNot() {
        isRefused(40, 1, 9, 1);
        isRefused(40, 1, 301, 1);
        isRefused(40, 1, 0, 1);
        isRefused(40, 1, -10, 1);
        isRefused(40, 1, LEAST, 1);
        isRefused(40, 1, GREATEST, 1);
    }

    /** On 43 by F as long as it is dark, from 13 on by E. */
    void promise17And18LegsThatAreAllowed() {
        SkipRays air = new SkipRays();
        int[] ends = {41, 46, 3, 8, 13, 15, 17, 19, 21, 23};
        for (int leg = 1; leg <= 10; leg++) {
            lands(air, 36, TO_EAST, 1, 43, leg, ends[leg - 1]);
        }
    }

    void promise17And18LegsThatAreNot() {
        isRefused(40, 1, 100, 0);
        isRefused(40, 1, 100, 11);
        isRefused(40, 1, 100, -1);
        isRefused(40, 1, 100, LEAST);
        isRefused(40, 1, 100, GREATEST);
    }

    void promise17And18ThePlaceAheadOfTheRanges() {
        isOutside(48, 0, 100, 1);
        isOutside(-1, 1, 301, 1);
        isOutside(48, 1, 100, 11);
        isOutside(-1, 10, 9, 0);
    }

    void promise17And18EastOf47Is0() {
        SkipRays air = new SkipRays();
        lands(air, 42, TO_EAST, 1, 43, 1, 47);
        lands(air, 43, TO_EAST, 1, 43, 1, 0);
        lands(air, 47, TO_EAST, 1, 43, 1, 4);
        lands(air, 45, TO_EAST, 1, 10, 1, 47);
        lands(air, 46, TO_EAST, 1, 10, 1, 0);
        lands(air, 47, TO_EAST, 1, 10, 1, 1);
        lands(air, 47, TO_EAST, 9, 42, 1, 0);
    }

    void promise17And18WestOf0Is47() {
        SkipRays air = new SkipRays();
        lands(air, 5, TO_WEST, 1, 43, 1, 0);
        lands(air, 4, TO_WEST, 1, 43, 1, 47);
        lands(air, 0, TO_WEST, 1, 43, 1, 43);
        lands(air, 2, TO_WEST, 1, 10, 1, 0);
        lands(air, 1, TO_WEST, 1, 10, 1, 47);
        lands(air, 0, TO_WEST, 1, 10, 1, 46);
        lands(air, 0, TO_WEST, 9, 42, 1, 47);
    }

    void promise17And18EIsLookedAtOverTheRingsRim() {
        SkipRays air = new SkipRays();
        air.cloud(0, 90, 1);
        lands(air, 47, TO_EAST, 1, 100, 1, 1);
        lands(air, 46, TO_EAST, 1, 100, 1, 3);
        lands(air, 0, TO_EAST, 1, 100, 1, 5);
        SkipRays other = new SkipRays();
        other.cloud(47, 90, 1);
        lands(other, 0, TO_WEST, 1, 100, 1, 46);
        lands(other, 1, TO_WEST, 1, 100, 1, 44);
        lands(other, 47, TO_WEST, 1, 100, 1, 42);
    }

    /** At the hour 7 it is light over 0 and 1, F is 60 and E is 16 there, and dark over 46 and 47. */
    void promise17And18FIsLookedAtOverTheRingsRim() {
        SkipRays air = Scenes.at(7);
        lands(air, 46, TO_EAST, 1, 252, 1, 3);
        lands(air, 46, TO_EAST, 1, 253, 1, NONE);
        lands(air, 45, TO_EAST, 1, 176, 1, 2);
        lands(air, 45, TO_EAST, 1, 177, 1, NONE);
        lands(air, 2, TO_WEST, 1, 252, 1, 45);
        lands(air, 2, TO_WEST, 1, 253, 1, NONE);
        lands(air, 1, TO_WEST, 1, 176, 1, 44);
        lands(air, 1, TO_WEST, 1, 177, 1, NONE);
    }

    void promise17And18OnceRoundTheRing() {
        SkipRays air = new SkipRays();
        air.sun(100);
        for (int leg = 1; leg <= 10; leg++) {
            lands(air, 0, TO_EAST, 1, 230, leg, 5 * leg % 48);
            lands(air, 0, TO_WEST, 1, 230, leg, (96 - 5 * leg) % 48);
        }
    }

    /** E bends up to its density times (46 less 4 times the angle) divided by 10; there the leg is by E. */
    void promise17And18AtMostIsBentByE() {
        SkipRays air = new SkipRays();
        int[] greatest = {42, 38, 34, 30, 26, 22, 18, 14, 10};
        for (int angle = 1; angle <= 9; angle++) {
            int byE = LENGTHS_BY_E[angle - 1];
            int byF = LENGTHS_BY_F[angle - 1];
            lands(air, 40, TO_EAST, angle, greatest[angle - 1], 1, 40 + byE);
            lands(air, 40, TO_WEST, angle, greatest[angle - 1], 1, 40 - byE);
            lands(air, 40, TO_EAST, angle, greatest[angle - 1] + 1, 1, 40 + byF);
            lands(air, 7, TO_WEST, angle, greatest[angle - 1] + 1, 1, 7 - byF);
        }
    }

    void promise17And18AtMostIsBentByF() {
        SkipRays air = new SkipRays();
        int[] greatest = {176, 159, 142, 126, 109, 92, 75, 58, 42};
        for (int angle = 1; angle <= 9; angle++) {
            int byF = LENGTHS_BY_F[angle - 1];
            lands(air, 40, TO_EAST, angle, greatest[angle - 1], 1, 40 + byF);
            lands(air, 7, TO_WEST, angle, greatest[angle - 1], 1, 7 - byF);
            lands(air, 40, TO_EAST, angle, greatest[angle - 1] + 1, 1, NONE);
            lands(air, 7, TO_WEST, angle, greatest[angle - 1] + 1, 1, NONE);
        }
    }

    /** F is 5 all round. */
    void promise17And18InTheStrongestStormEAloneBends() {
        SkipRays air = new SkipRays();
        air.storm(60, 1);
        lands(air, 40, TO_EAST, 1, 42, 1, 42);
        lands(air, 40, TO_EAST, 1, 43, 1, NONE);
        lands(air, 40, TO_EAST, 9, 10, 1, 40);
        lands(air, 40, TO_EAST, 9, 11, 1, NONE);
    }

    /** Both would bend it. */
    void promise17And18EIsLookedAtFirst() {
        SkipRays air = new SkipRays();
        lands(air, 40, TO_EAST, 1, 10, 1, 42);
        lands(air, 40, TO_EAST, 1, 10, 2, 44);
        lands(air, 7, TO_WEST, 1, 10, 1, 5);
    }

    /** A cloud tells over which place E is looked at: 1 further for 2 places, 0 further for 1 or 0. */
    void promise17And18HalfOfTheLengthByERoundedDown() {
        SkipRays air = new SkipRays();
        air.cloud(40, 90, 1);
        int[] halves = {1, 1, 0, 0, 0, 0, 0, 0, 0};
        for (int angle = 1; angle <= 9; angle++) {
            int frequency = angle == 9 ? 90 : 100;
            int half = halves[angle - 1];
            int length = LENGTHS_BY_E[angle - 1];
            lands(air, 40 - half, TO_EAST, angle, frequency, 1, 40 - half + length);
            lands(air, 40 + half, TO_WEST, angle, frequency, 1, 40 + half - length);
        }
        lands(air, 40, TO_EAST, 1, 177, 1, NONE);
        lands(air, 38, TO_EAST, 1, 177, 1, NONE);
        lands(air, 39, TO_EAST, 3, 177, 1, NONE);
        lands(air, 41, TO_WEST, 6, 177, 1, NONE);
        lands(air, 39, TO_EAST, 9, 90, 1, NONE);
        lands(air, 41, TO_WEST, 9, 90, 1, NONE);
    }

    /** The rim of the light tells over which place F is looked at; each frequency is bent over 14 alone. */
    void promise17And18HalfOfTheLengthByFRoundedDown() {
        SkipRays air = new SkipRays();
        int[] halves = {2, 2, 2, 1, 1, 1, 1, 0, 0};
        for (int angle = 1; angle <= 9; angle++) {
            int frequency = 42 * (46 - 4 * angle) / 10 + 1;
            int half = halves[angle - 1];
            int length = LENGTHS_BY_F[angle - 1];
            lands(air, 14 - half, TO_EAST, angle, frequency, 1, 14 - half + length);
            lands(air, 13 - half, TO_EAST, angle, frequency, 1, NONE);
            lands(air, 14 + half, TO_WEST, angle, frequency, 1, 14 + half - length);
            lands(air, 13 + half, TO_WEST, angle, frequency, 1, NONE);
        }
    }

    void promise17And18ALegOf0PlacesEndsWhereItBegins() {
        SkipRays air = new SkipRays();
        for (int angle = 7; angle <= 9; angle++) {
            for (int leg = 1; leg <= 10; leg++) {
                lands(air, 0, TO_EAST, angle, 10, leg, 0);
                lands(air, 47, TO_WEST, angle, 10, leg, 47);
            }
        }
    }

    /** Out of the light: over 26 and 31 F bends 200, over 36 it does not. */
    void promise17And18LostOnThatLegOrAheadOfIt() {
        SkipRays air = new SkipRays();
        lands(air, 24, TO_EAST, 1, 200, 1, 29);
        lands(air, 24, TO_EAST, 1, 200, 2, 34);
        for (int leg = 3; leg <= 10; leg++) {
            lands(air, 24, TO_EAST, 1, 200, leg, NONE);
        }
        for (int leg = 1; leg <= 10; leg++) {
            lands(air, 40, TO_EAST, 1, 177, leg, NONE);
        }
    }

    /** Legs of 1 place, as long as they begin by light. */
    void promise17And18LostOnTheTenthLegAlone() {
        SkipRays air = new SkipRays();
        lands(air, 22, TO_WEST, 8, 84, 9, 13);
        lands(air, 22, TO_WEST, 8, 84, 10, NONE);
        lands(air, 23, TO_WEST, 8, 84, 10, 13);
        lands(air, 27, TO_EAST, 8, 84, 9, 36);
        lands(air, 27, TO_EAST, 8, 84, 10, NONE);
        lands(air, 26, TO_EAST, 8, 84, 10, 36);
    }

    void promise17And18WhateverItsStrength() {
        SkipRays air = new SkipRays();
        air.flare(80);
        due.is("no path by 10, so strong is D", air.paths(24, 26, 10, 100), 0);
        lands(air, 24, TO_EAST, 1, 10, 1, 26);
        lands(air, 24, TO_EAST, 1, 10, 2, 28);
        lands(air, 24, TO_EAST, 1, 10, 10, 44);
    }

    void promise17And18QuestionsChangeNothing() {
        asking("landing and landingAnew", Scenes::busy, air -> {
            for (int n = 0; n < 40; n++) {
                air.landing(n, n % 2 == 0, n % 9 + 1, 10 + 7 * n, n % 10 + 1);
                air.landingAnew(n, n % 2 == 0, n % 9 + 1, 10 + 7 * n, n % 10 + 1);
            }
        });
    }

    // ---- promise 23: skipped

    void promise23PlacesThatAreThere() {
        SkipRays air = new SkipRays();
        due.is("skipped(0, east)", air.skipped(0, TO_EAST, 176), 4);
        due.is("skipped(0, west)", air.skipped(0, TO_WEST, 176), 4);
        due.is("skipped(47, east)", air.skipped(47, TO_EAST, 176), 4);
        due.is("skipped(47, west)", air.skipped(47, TO_WEST, 176), 4);
    }

    void promise23PlacesThatAreNot() {
        outside("skipped(-1)", Scenes::busy, air -> air.skipped(-1, TO_EAST, 100));
        outside("skipped(48)", Scenes::busy, air -> air.skipped(48, TO_EAST, 100));
        outside("skipped(-1) west", Scenes::busy, air -> air.skipped(-1, TO_WEST, 100));
        outside("skipped(48) west", Scenes::busy, air -> air.skipped(48, TO_WEST, 100));
        outside("skipped(least)", Scenes::busy, air -> air.skipped(LEAST, TO_EAST, 100));
        outside("skipped(greatest)", Scenes::busy, air -> air.skipped(GREATEST, TO_EAST, 100));
    }

    void promise23FrequenciesThatAreAllowed() {
        SkipRays air = new SkipRays();
        air.sun(100);
        due.is("frequency 10", air.skipped(40, TO_EAST, 10), 0);
        due.is("frequency 300", air.skipped(40, TO_EAST, 300), NONE);
        due.is("frequency 300 by light", air.skipped(24, TO_EAST, 300), 2);
    }

    void promise23FrequenciesThatAreNot() {
        refused("frequency 9", Scenes::busy, air -> air.skipped(0, TO_EAST, 9));
        refused("frequency 301", Scenes::busy, air -> air.skipped(0, TO_EAST, 301));
        refused("frequency 0", Scenes::busy, air -> air.skipped(0, TO_WEST, 0));
        refused("frequency least", Scenes::busy, air -> air.skipped(0, TO_WEST, LEAST));
        refused("frequency greatest", Scenes::busy, air -> air.skipped(0, TO_WEST, GREATEST));
    }

    void promise23ThePlaceAheadOfTheFrequency() {
        outside("skipped(48) on 9", Scenes::busy, air -> air.skipped(48, TO_EAST, 9));
        outside("skipped(-1) on 301", Scenes::busy, air -> air.skipped(-1, TO_WEST, 301));
    }

    void promise23AtLeast0() {
        SkipRays air = new SkipRays();
        due.is("a leg of 0 places", air.skipped(40, TO_EAST, 18), 0);
        due.is("a leg of 1 place", air.skipped(40, TO_EAST, 19), 0);
        due.is("a leg of 1 place, the last frequency", air.skipped(40, TO_EAST, 58), 0);
        due.is("a leg of 2 places", air.skipped(40, TO_EAST, 59), 1);
    }

    void promise23TheLeastLengthOfAllRays() {
        SkipRays air = new SkipRays();
        int[] last = {58, 92, 126, 159, 176};
        for (int n = 0; n < last.length; n++) {
            due.is("on " + last[n], air.skipped(40, TO_EAST, last[n]), n);
            due.is("on " + (last[n] + 1), air.skipped(40, TO_EAST, last[n] + 1), n < 4 ? n + 1 : NONE);
        }
    }

    void promise23AllAreLostOnTheFirstLeg() {
        SkipRays air = new SkipRays();
        due.is("on 177", air.skipped(40, TO_EAST, 177), NONE);
        air.storm(60, 1);
        due.is("on 42 in a storm, angle 1 by E", air.skipped(40, TO_EAST, 42), 1);
        due.is("on 43 in a storm", air.skipped(40, TO_EAST, 43), NONE);
    }

    /** The first leg alone: by light it goes on to the dark, where the second one is lost. */
    void promise23LostOnTheSecondLegIsNotLost() {
        SkipRays air = new SkipRays();
        due.is("on 252 out of the light, angle 1", air.skipped(16, TO_WEST, 252), 4);
        due.is("the second leg", air.landing(16, TO_WEST, 1, 252, 2), NONE);
    }

    void promise23OneDirectionAlone() {
        SkipRays air = new SkipRays();
        due.is("from 12 into the light on 252", air.skipped(12, TO_EAST, 252), 4);
        due.is("from 12 into the dark on 252", air.skipped(12, TO_WEST, 252), NONE);
    }

    void promise23RoundTheRingsRim() {
        SkipRays air = new SkipRays();
        air.cloud(0, 90, 1);
        due.is("from 47 east, by E over 0", air.skipped(47, TO_EAST, 300), 1);
        due.is("from 46 east, lost", air.skipped(46, TO_EAST, 300), NONE);
        SkipRays other = new SkipRays();
        other.cloud(47, 90, 1);
        due.is("from 0 west, by E over 47", other.skipped(0, TO_WEST, 300), 1);
        due.is("from 1 west, lost", other.skipped(1, TO_WEST, 300), NONE);
    }

    void promise23AQuestionChangesNothing() {
        asking("skipped", Scenes::busy, air -> {
            for (int place = 0; place < 48; place++) {
                air.skipped(place, place % 2 == 0, 10 + 6 * place);
            }
        });
    }
}
