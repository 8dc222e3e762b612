/** Paths, what explains them, and what can be used: promises 19 to 22. */
final class PathTests {
    private final Due due;

    PathTests(Due due) {
        this.due = due;
    }

    void run() {
        due.promise(19);
        countInTheDark();
        countToItself();
        countToTheWest();
        tenLegs();
        groundTakes();
        lightTakes();
        pathRefusals();
        due.promise(20);
        toldByF();
        toldByE();
        toldByBoth();
        toldOfTheWest();
        noSuchPath();
        due.promise(21);
        explain();
        explainRefusals();
        due.promise(22);
        usable();
        usableRefusals();
    }

    /** In the dark, with the frequency 100, only F bends, and only the angles 1 to 5. */
    private void countInTheDark() {
        SkipRays air = new SkipRays();
        due.is("5 places, strength 7", air.paths(40, 45, 100, 7), 1);
        due.is("5 places, strength 6", air.paths(40, 45, 100, 6), 0);
        due.is("5 places, strength 100", air.paths(40, 45, 100, 100), 1);
        due.is("10 places, strength 20", air.paths(40, 2, 100, 20), 1);
        due.is("10 places, strength 19", air.paths(40, 2, 100, 19), 0);
        due.is("12 places, strength 29", air.paths(40, 4, 100, 29), 0);
        due.is("12 places, strength 30", air.paths(40, 4, 100, 30), 2);
        due.is("12 places, strength 37", air.paths(40, 4, 100, 37), 2);
        due.is("12 places, strength 38", air.paths(40, 4, 100, 38), 4);
        due.is("1 place, none", air.paths(40, 41, 100, 38), 0);
        due.is("strength 0", air.paths(40, 45, 100, 0), 0);
    }

    /** With the frequency 10 E bends all, the angles 7 to 9 by legs of 0 places. */
    private void countToItself() {
        SkipRays air = new SkipRays();
        due.is("strength 2", air.paths(40, 40, 10, 2), 6);
        due.is("strength 1", air.paths(40, 40, 10, 1), 0);
        due.is("strength 100", air.paths(40, 40, 10, 100), 6);
        due.is("nowhere else by these", air.paths(40, 41, 10, 3), 4);
    }

    private void countToTheWest() {
        SkipRays air = new SkipRays();
        due.is("5 places", air.paths(45, 40, 100, 7), 1);
        due.is("5 places, too weak", air.paths(45, 40, 100, 6), 0);
        due.is("12 places", air.paths(4, 40, 100, 38), 4);
        due.is("to a place of itself, as in the east", air.paths(0, 0, 10, 2), 6);
    }

    /** On 50, at sea in the dark, 10 legs of a place take 3 each, and the ground ahead of 9 of them 3. */
    private static SkipRays wet() {
        SkipRays air = new SkipRays();
        for (int place = 0; place < 48; place++) {
            air.sea(place, true);
        }
        return air;
    }

    private void tenLegs() {
        SkipRays air = wet();
        due.is("2 legs, 5 legs twice, 10 legs", air.paths(36, 46, 50, 57), 4);
        due.is("10 legs, too weak", air.paths(36, 46, 50, 56), 3);
        due.is("11 legs", air.paths(36, 47, 50, 100), 0);
        due.is("10 legs to the west", air.paths(10, 0, 50, 57), 4);
        due.is("11 legs to the west", air.paths(11, 0, 50, 100), 0);
    }

    private void groundTakes() {
        SkipRays air = new SkipRays();
        air.sea(45, true);
        due.is("sea between", air.paths(40, 2, 100, 17), 1);
        due.is("sea between, too weak", air.paths(40, 2, 100, 16), 0);
        air.sea(45, false);
        air.sea(40, true);
        air.sea(2, true);
        due.is("sea at both ends takes nothing less", air.paths(40, 2, 100, 19), 0);
        due.is("land between", air.paths(40, 2, 100, 20), 1);
        due.is("the ground of the first leg takes nothing", air.paths(40, 45, 100, 7), 1);
    }

    /** D over the place 24 is 12 at first: the least path back to it is a leg of 0 places. */
    private void lightTakes() {
        SkipRays air = new SkipRays();
        due.is("24 * 40 / 80", air.paths(24, 24, 80, 14), 2);
        due.is("24 * 40 / 80, too weak", air.paths(24, 24, 80, 13), 0);
        due.is("24 * 40 / 70, rounded", air.paths(24, 24, 70, 15), 2);
        due.is("24 * 40 / 70, too weak", air.paths(24, 24, 70, 14), 0);
        air.flare(5);
        due.is("34 * 40 / 80", air.paths(24, 24, 80, 19), 2);
        due.is("34 * 40 / 80, too weak", air.paths(24, 24, 80, 18), 0);
        due.is("D at both ends, (17 + 13) * 40 / 300", air.paths(24, 29, 300, 11), 1);
        due.is("D at both ends, too weak", air.paths(24, 29, 300, 10), 0);
    }

    private void pathRefusals() {
        SkipRays air = new SkipRays();
        due.outside("from -1", () -> air.paths(-1, 0, 10, 0));
        due.outside("from 48", () -> air.paths(48, 0, 10, 0));
        due.outside("to -1", () -> air.paths(0, -1, 10, 0));
        due.outside("to 48", () -> air.paths(0, 48, 10, 0));
        due.outside("to 48, the place first", () -> air.paths(0, 48, 9, 101));
        due.refused("frequency 9", () -> air.paths(0, 0, 9, 0));
        due.refused("frequency 301", () -> air.paths(0, 0, 301, 0));
        due.refused("strength -1", () -> air.paths(0, 0, 10, -1));
        due.refused("strength 101", () -> air.paths(0, 0, 10, 101));
    }

    private void tells(SkipRays air, int[] question, int path, int... wants) {
        for (int what = 0; what < wants.length; what++) {
            int got = air.path(question[0], question[1], question[2], question[3], path, what);
            due.is("path " + path + " from " + question[0] + " to " + question[1] + " on " + question[2]
                    + " with " + question[3] + ", " + what, got, wants[what]);
        }
    }

    private void toldByF() {
        SkipRays air = new SkipRays();
        tells(air, new int[] {40, 45, 100, 7}, 0, SkipRays.EAST, 1, 1, 0, 0, 55);
        tells(air, new int[] {40, 2, 100, 50}, 0, SkipRays.EAST, 1, 2, 0, 30, 110);
        int[] far = {40, 4, 100, 40};
        tells(air, far, 0, SkipRays.EAST, 2, 3, 0, 10, 135);
        tells(air, far, 1, SkipRays.EAST, 3, 3, 0, 10, 135);
        tells(air, far, 2, SkipRays.EAST, 4, 4, 0, 2, 140);
        tells(air, far, 3, SkipRays.EAST, 5, 4, 0, 2, 140);
        air.sea(44, true);
        tells(air, far, 0, SkipRays.EAST, 2, 3, 0, 13, 135);
    }

    private void toldByE() {
        SkipRays air = new SkipRays();
        int[] itself = {40, 40, 10, 9};
        tells(air, itself, 0, SkipRays.EAST, 7, 1, 1, 7, 2);
        tells(air, itself, 2, SkipRays.EAST, 9, 1, 1, 7, 2);
        tells(air, itself, 3, SkipRays.WEST, 7, 1, 1, 7, 2);
        tells(air, itself, 5, SkipRays.WEST, 9, 1, 1, 7, 2);
        tells(air, new int[] {40, 42, 10, 12}, 0, SkipRays.EAST, 1, 1, 1, 8, 22);
        tells(air, new int[] {40, 42, 10, 12}, 2, SkipRays.EAST, 3, 2, 2, 0, 24);
    }

    private void toldByBoth() {
        SkipRays air = new SkipRays();
        air.cloud(41, 90, 1);
        tells(air, new int[] {40, 47, 43, 17}, 0, SkipRays.EAST, 1, 2, 1, 0, 77);
        air.sea(42, true);
        tells(air, new int[] {40, 47, 43, 17}, 0, SkipRays.EAST, 1, 2, 1, 3, 77);
    }

    private void toldOfTheWest() {
        SkipRays air = new SkipRays();
        tells(air, new int[] {2, 40, 100, 20}, 0, SkipRays.WEST, 1, 2, 0, 0, 110);
        tells(air, new int[] {4, 40, 100, 38}, 3, SkipRays.WEST, 5, 4, 0, 0, 140);
        due.outside("a path behind the last one", () -> air.path(2, 40, 100, 20, 1, 0));
        SkipRays wet = wet();
        tells(wet, new int[] {10, 0, 50, 57}, 3, SkipRays.WEST, 8, 10, 0, 0, 150);
        tells(wet, new int[] {36, 46, 50, 57}, 3, SkipRays.EAST, 8, 10, 0, 0, 150);
    }

    private void noSuchPath() {
        SkipRays air = new SkipRays();
        due.outside("path -1", () -> air.path(40, 45, 100, 7, -1, 0));
        due.outside("path 1", () -> air.path(40, 45, 100, 7, 1, 0));
        due.outside("path 0, none there", () -> air.path(40, 45, 100, 6, 0, 0));
        due.outside("path least int", () -> air.path(40, 45, 100, 7, Integer.MIN_VALUE, 0));
        due.outside("path greatest int", () -> air.path(40, 45, 100, 7, Integer.MAX_VALUE, 0));
        due.outside("from 48", () -> air.path(48, 45, 100, 7, 0, 0));
        due.outside("from -1", () -> air.path(-1, 45, 100, 7, 0, 0));
        due.outside("to 48", () -> air.path(40, 48, 100, 7, 0, 0));
        due.outside("to -1, the place first", () -> air.path(40, -1, 9, 101, 0, 6));
        due.refused("frequency 9", () -> air.path(40, 45, 9, 7, 0, 0));
        due.refused("frequency 301", () -> air.path(40, 45, 301, 7, 0, 0));
        due.refused("strength -1", () -> air.path(40, 45, 100, -1, 0, 0));
        due.refused("strength 101", () -> air.path(40, 45, 100, 101, 0, 0));
        due.refused("what -1", () -> air.path(40, 45, 100, 7, 0, -1));
        due.refused("what 6", () -> air.path(40, 45, 100, 7, 0, 6));
        due.refused("what 6, ahead of the path", () -> air.path(40, 45, 100, 7, 9, 6));
        due.refused("frequency 9, ahead of the path", () -> air.path(40, 45, 9, 7, 9, 0));
    }

    private void explain() {
        SkipRays air = new SkipRays();
        due.is("delays 135 and 140, 0", air.explain(40, 4, 100, 40, 0), 0);
        due.is("delays 135 and 140, 137", air.explain(40, 4, 100, 40, 137), 0);
        due.is("delays 135 and 140, 138", air.explain(40, 4, 100, 40, 138), 2);
        due.is("delays 135 and 140, 1000", air.explain(40, 4, 100, 40, 1000), 2);
        due.is("delays 135 alone, 1000", air.explain(40, 4, 100, 37, 1000), 0);
        due.is("no path", air.explain(40, 4, 100, 29, 135), SkipRays.NONE);
        due.is("delays 22 and 24, 23 is as near to both", air.explain(40, 42, 10, 12, 23), 0);
        due.is("delays 22 and 24, 24", air.explain(40, 42, 10, 12, 24), 2);
    }

    private void explainRefusals() {
        SkipRays air = new SkipRays();
        due.outside("from -1", () -> air.explain(-1, 0, 10, 0, 0));
        due.outside("from 48", () -> air.explain(48, 0, 10, 0, 0));
        due.outside("to -1", () -> air.explain(0, -1, 10, 0, 0));
        due.outside("to 48, the place first", () -> air.explain(0, 48, 9, 101, 1001));
        due.refused("frequency 9", () -> air.explain(0, 0, 9, 0, 0));
        due.refused("frequency 301", () -> air.explain(0, 0, 301, 0, 0));
        due.refused("strength -1", () -> air.explain(0, 0, 10, -1, 0));
        due.refused("strength 101", () -> air.explain(0, 0, 10, 101, 0));
        due.refused("delay -1", () -> air.explain(0, 0, 10, 0, -1));
        due.refused("delay 1001", () -> air.explain(0, 0, 10, 0, 1001));
    }

    private void usable() {
        SkipRays air = new SkipRays();
        due.is("the greatest, strength 13", air.usable(24, 24, 13, true), SkipRays.NONE);
        due.is("the least, strength 13", air.usable(24, 24, 13, false), SkipRays.NONE);
        due.is("the greatest, strength 14", air.usable(24, 24, 14, true), 80);
        due.is("the least, strength 14", air.usable(24, 24, 14, false), 80);
        due.is("the least, strength 15", air.usable(24, 24, 15, false), 70);
        due.is("the least, strength 18", air.usable(24, 24, 18, false), 60);
        due.is("the greatest, strength 18", air.usable(24, 24, 18, true), 80);
        due.is("the least, strength 98", air.usable(24, 24, 98, false), 10);
        due.is("the least, strength 97", air.usable(24, 24, 97, false), 20);
        due.is("in the dark, the greatest of 176", air.usable(40, 45, 7, true), 170);
        due.is("in the dark, 5 places by F from 43 on", air.usable(40, 45, 7, false), 50);
        air.sun(100);
        due.is("the greatest of all", air.usable(24, 29, 9, true), 300);
        due.is("strength 0", air.usable(24, 29, 0, true), SkipRays.NONE);
    }

    private void usableRefusals() {
        SkipRays air = new SkipRays();
        due.outside("from -1", () -> air.usable(-1, 0, 0, true));
        due.outside("from 48", () -> air.usable(48, 0, 0, true));
        due.outside("to -1", () -> air.usable(0, -1, 0, true));
        due.outside("to 48, the place first", () -> air.usable(0, 48, 101, true));
        due.refused("strength -1", () -> air.usable(0, 0, -1, true));
        due.refused("strength 101", () -> air.usable(0, 0, 101, false));
    }
}
