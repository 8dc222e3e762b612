import java.util.ArrayList;
import java.util.List;

/**
 * All that can be seen of an object, in some 320 calls; the later ones change it, to see what only answers of
 * changing calls tell, so an object is looked at once.
 */
final class Look {
    static final String NO_DIFFERENCE = "no difference";

    private static final int PLACES = 48;
    private static final int LAST_HOUR = 5000;
    private static final int[] FREQUENCIES = {20, 100, 170};

    private final SkipRays air;
    private final List<String> seen = new ArrayList<>();

    private Look(SkipRays air) {
        this.air = air;
    }

    /** The first thing in which they differ, both as they are seen. */
    static String difference(SkipRays one, SkipRays other) {
        List<String> ones = new Look(one).look();
        List<String> others = new Look(other).look();
        for (int n = 0; n < ones.size() && n < others.size(); n++) {
            if (!ones.get(n).equals(others.get(n))) {
                return ones.get(n) + ", the other one's " + others.get(n);
            }
        }
        return ones.size() == others.size() ? NO_DIFFERENCE : "more of the one";
    }

    private List<String> look() {
        askTheAir();
        askTheLogs();
        askTheStations();
        tellTheGround();
        tellTheAir();
        return seen;
    }

    private void see(String what, long answer) {
        seen.add(what + " is " + answer);
    }

    private void askTheAir() {
        see("the hour", air.hour());
        for (int place = 0; place < PLACES; place++) {
            see("D over " + place, air.density(place, SkipRays.D));
            see("E over " + place, air.density(place, SkipRays.E));
            see("F over " + place, air.density(place, SkipRays.F));
        }
    }

    private void askTheLogs() {
        for (int what = 0; what <= 4; what++) {
            see("count " + what, air.count(what));
        }
        see("the forecasts", air.forecasts(false));
        see("the right forecasts", air.forecasts(true));
        int contacts = air.count(2);
        for (int what = 0; what <= 4 && contacts > 0; what++) {
            see("the first contact's " + what, air.contactOf(0, what));
            see("the last contact's " + what, air.contactOf(contacts - 1, what));
        }
        int entries = air.count(3);
        for (int what = 0; what <= 5 && entries > 0; what++) {
            see("the first entry's " + what, air.entryOf(0, what));
            see("the last entry's " + what, air.entryOf(entries - 1, what));
        }
    }

    private void askTheStations() {
        int stations = air.count(0);
        for (int station = 0; station < stations; station++) {
            see("the score of " + station, air.score(station));
        }
        for (int n = 0; n < FREQUENCIES.length && stations > 1; n++) {
            see("a signal to the first", air.signal(stations - 1, 0, FREQUENCIES[n]));
            see("a signal from the first", air.signal(0, stations - 1, FREQUENCIES[n]));
        }
        see("what is heard at 45", air.listen(45));
        see("what is heard at 2", air.listen(2));
        see("the forecasts then", air.forecasts(false));
        see("the right forecasts then", air.forecasts(true));
    }

    private void tellTheGround() {
        for (int place = 0; place < PLACES; place++) {
            see("the noise of " + place, air.noise(place, 0));
            see("the sea at " + place, air.sea(place, false) ? 1 : 0);
        }
    }

    /** The hours of a storm and of clouds are seen by what is left of them as hours go by. */
    private void tellTheAir() {
        for (int gone = 1; gone <= 4 && air.hour() < LAST_HOUR; gone++) {
            see("the hour, " + gone + " later", air.pass(1));
            see("E over 0, " + gone + " later", air.density(0, SkipRays.E));
            see("E over 47, " + gone + " later", air.density(47, SkipRays.E));
            see("F over 24, " + gone + " later", air.density(24, SkipRays.F));
        }
        see("the sun", air.sun(50));
        see("the flare", air.flare(1));
    }
}
