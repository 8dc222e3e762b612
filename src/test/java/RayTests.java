/** Where rays land, and what they skip: promises 17, 18 and 23. */
final class RayTests {
    /** At the hour 0 the places 36 to 47 and 0 to 13 are dark: E is 10 there, F is 42. */
    private static final int[] LENGTHS_BY_E = {2, 2, 1, 1, 1, 1, 0, 0, 0};
    private static final int[] LENGTHS_BY_F = {5, 4, 4, 3, 3, 2, 2, 1, 1};

    private final Due due;

    RayTests(Due due) {
        this.due = due;
    }

    void run() {
        for (int promise = 17; promise <= 18; promise++) {
            due.promise(promise);
            lengths();
            limits();
            halves();
            halvesByE();
            legs();
            roundTheRing();
            byOtherAir();
            refusals();
        }
        due.promise(23);
        skipped();
        skippedRefusals();
    }

    private boolean anew() {
        return due.tested(18);
    }

    private int land(SkipRays air, int place, boolean east, int angle, int frequency, int leg) {
        return anew() ? air.landingAnew(place, east, angle, frequency, leg)
                : air.landing(place, east, angle, frequency, leg);
    }

    private void lands(SkipRays air, int place, boolean east, int angle, int frequency, int leg, int want) {
        String what = (east ? "east" : "west") + " from " + place + ", angle " + angle
                + ", frequency " + frequency + ", leg " + leg;
        due.is(what, land(air, place, east, angle, frequency, leg), want);
    }

    private void lengths() {
        SkipRays air = new SkipRays();
        for (int angle = 1; angle <= 9; angle++) {
            int byE = LENGTHS_BY_E[angle - 1];
            int byF = LENGTHS_BY_F[angle - 1];
            lands(air, 42, true, angle, 10, 1, 42 + byE);
            lands(air, 6, false, angle, 10, 1, 6 - byE);
            int onlyF = angle == 1 ? 43 : 42;
            lands(air, 42, true, angle, onlyF, 1, 42 + byF);
            lands(air, 6, false, angle, onlyF, 1, 6 - byF);
        }
    }

    /** The greatest frequency that is bent, and one more, for each angle. */
    private void limits() {
        SkipRays air = new SkipRays();
        for (int angle = 1; angle <= 9; angle++) {
            int byE = 46 - 4 * angle;
            int byF = 42 * (46 - 4 * angle) / 10;
            lands(air, 2, true, angle, byE, 1, 2 + LENGTHS_BY_E[angle - 1]);
            lands(air, 2, true, angle, byE + 1, 1, 2 + LENGTHS_BY_F[angle - 1]);
            lands(air, 2, true, angle, byF, 1, 2 + LENGTHS_BY_F[angle - 1]);
            lands(air, 2, true, angle, byF + 1, 1, SkipRays.NONE);
        }
    }

    /** F over the place 14 is 60, over 13 it is 42; so which place is looked over tells. */
    private void halves() {
        SkipRays air = new SkipRays();
        lands(air, 12, true, 1, 200, 1, 17);
        lands(air, 11, true, 1, 200, 1, SkipRays.NONE);
        lands(air, 16, false, 1, 200, 1, 11);
        lands(air, 15, false, 1, 200, 1, SkipRays.NONE);
        lands(air, 12, true, 2, 200, 1, 16);
        lands(air, 11, true, 2, 200, 1, SkipRays.NONE);
        lands(air, 12, true, 3, 180, 1, 16);
        lands(air, 11, true, 3, 180, 1, SkipRays.NONE);
        lands(air, 13, true, 4, 150, 1, 16);
        lands(air, 12, true, 4, 150, 1, SkipRays.NONE);
        lands(air, 13, true, 5, 140, 1, 16);
        lands(air, 12, true, 5, 140, 1, SkipRays.NONE);
        lands(air, 13, true, 6, 100, 1, 15);
        lands(air, 12, true, 6, 100, 1, SkipRays.NONE);
        lands(air, 13, true, 7, 100, 1, 15);
        lands(air, 12, true, 7, 100, 1, SkipRays.NONE);
        lands(air, 14, true, 8, 70, 1, 15);
        lands(air, 13, true, 8, 70, 1, SkipRays.NONE);
        lands(air, 14, false, 9, 60, 1, 13);
        lands(air, 13, false, 9, 60, 1, SkipRays.NONE);
        lands(air, 15, false, 4, 150, 1, 12);
        lands(air, 14, false, 4, 150, 1, SkipRays.NONE);
    }

    /** A cloud tells over which place E is looked at. */
    private void halvesByE() {
        SkipRays air = new SkipRays();
        air.cloud(42, 90, 5);
        lands(air, 41, true, 1, 50, 1, 43);
        lands(air, 42, true, 1, 50, 1, 47);
        lands(air, 40, true, 1, 50, 1, 45);
        lands(air, 43, false, 1, 50, 1, 41);
        lands(air, 42, false, 1, 50, 1, 37);
        lands(air, 41, true, 2, 50, 1, 43);
        lands(air, 42, true, 3, 50, 1, 43);
        lands(air, 41, true, 3, 50, 1, 45);
        lands(air, 42, false, 6, 50, 1, 41);
        lands(air, 43, false, 6, 50, 1, 41);
        lands(air, 42, true, 9, 50, 10, 42);
        lands(air, 41, true, 9, 50, 1, SkipRays.NONE);
        lands(air, 41, true, 8, 50, 1, 42);
        lands(air, 41, true, 8, 50, 10, 42);
    }

    private void legs() {
        SkipRays air = new SkipRays();
        int[] ends = {45, 2, 7, 12, 17};
        for (int leg = 1; leg <= 5; leg++) {
            lands(air, 40, true, 1, 176, leg, ends[leg - 1]);
        }
        lands(air, 17, false, 1, 200, 1, 12);
        for (int leg = 2; leg <= 10; leg++) {
            lands(air, 17, false, 1, 200, leg, SkipRays.NONE);
        }
        lands(air, 45, true, 9, 10, 10, 45);
    }

    private void roundTheRing() {
        SkipRays air = new SkipRays();
        air.sun(100);
        int[] east = {2, 7, 12, 17, 22, 27, 32, 37, 42, 47};
        for (int leg = 1; leg <= 10; leg++) {
            lands(air, 45, true, 1, 231, leg, east[leg - 1]);
            lands(air, 2, false, 1, 231, leg, (2 - 5 * leg + 96) % 48);
        }
        lands(air, 0, false, 1, 231, 1, 43);
        lands(air, 47, true, 8, 55, 1, 0);
        lands(air, 0, false, 8, 55, 1, 47);
    }

    private void byOtherAir() {
        SkipRays air = new SkipRays();
        air.storm(20, 1);
        lands(air, 2, true, 1, 100, 1, SkipRays.NONE);
        lands(air, 2, true, 1, 92, 1, 7);
        air.pass(1);
        lands(air, 2, true, 1, 100, 1, 7);
        air.flare(80);
        lands(air, 2, true, 1, 100, 1, 7);
        lands(air, 24, true, 1, 100, 10, air.landing(24, true, 1, 100, 10));
        due.is("by day, whatever its strength", land(air, 24, true, 1, 10, 10), 44);
    }

    private void refusals() {
        SkipRays air = new SkipRays();
        due.outside("place -1", () -> land(air, -1, true, 1, 10, 1));
        due.outside("place 48", () -> land(air, 48, true, 1, 10, 1));
        due.outside("place 48, angle 0", () -> land(air, 48, true, 0, 9, 0));
        due.refused("angle 0", () -> land(air, 0, true, 0, 10, 1));
        due.refused("angle 10", () -> land(air, 0, true, 10, 10, 1));
        due.refused("frequency 9", () -> land(air, 0, true, 1, 9, 1));
        due.refused("frequency 0", () -> land(air, 0, true, 1, 0, 1));
        due.refused("frequency 301", () -> land(air, 0, true, 1, 301, 1));
        due.refused("leg 0", () -> land(air, 0, true, 1, 10, 0));
        due.refused("leg 11", () -> land(air, 0, true, 1, 10, 11));
        due.is("frequency 300 is lost", land(air, 0, true, 1, 300, 1), SkipRays.NONE);
    }

    private void skipped() {
        SkipRays air = new SkipRays();
        due.is("frequency 10, a leg of 0 places", air.skipped(0, true, 10), 0);
        due.is("frequency 42, a leg of 1 place", air.skipped(0, true, 42), 0);
        due.is("frequency 58, a leg of 1 place", air.skipped(0, true, 58), 0);
        due.is("frequency 59, a leg of 2 places", air.skipped(0, true, 59), 1);
        due.is("frequency 92, a leg of 2 places", air.skipped(0, true, 92), 1);
        due.is("frequency 93, a leg of 3 places", air.skipped(0, true, 93), 2);
        due.is("frequency 126, a leg of 3 places", air.skipped(0, true, 126), 2);
        due.is("frequency 127, a leg of 4 places", air.skipped(0, true, 127), 3);
        due.is("frequency 159, a leg of 4 places", air.skipped(0, true, 159), 3);
        due.is("frequency 160, a leg of 5 places", air.skipped(0, true, 160), 4);
        due.is("frequency 176, a leg of 5 places", air.skipped(0, true, 176), 4);
        due.is("frequency 177, all lost", air.skipped(0, true, 177), SkipRays.NONE);
        due.is("into the light", air.skipped(12, true, 177), 3);
        due.is("out of the dark to the other side", air.skipped(12, false, 177), SkipRays.NONE);
        due.is("west, over 14", air.skipped(16, false, 200), 3);
        due.is("west, over 13", air.skipped(15, false, 250), SkipRays.NONE);
        air.cloud(1, 90, 1);
        due.is("a cloud beside, a leg by E of 2 places", air.skipped(0, true, 177), 1);
        due.is("the cloud over it, a leg of 0 places", air.skipped(1, true, 100), 0);
        air.storm(60, 1);
        due.is("nothing but the cloud", air.skipped(0, true, 100), 1);
        due.is("nothing", air.skipped(0, false, 100), SkipRays.NONE);
    }

    private void skippedRefusals() {
        SkipRays air = new SkipRays();
        due.outside("skipped(-1)", () -> air.skipped(-1, true, 10));
        due.outside("skipped(48)", () -> air.skipped(48, true, 10));
        due.outside("skipped(48), the place first", () -> air.skipped(48, true, 9));
        due.refused("frequency 9", () -> air.skipped(0, true, 9));
        due.refused("frequency 301", () -> air.skipped(0, true, 301));
        due.is("frequency 300", air.skipped(0, true, 300), SkipRays.NONE);
    }
}
