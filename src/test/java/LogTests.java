/** Logs, scores and counts: promises 12, 26, 27 and 29. */
final class LogTests {
    private final Due due;

    LogTests(Due due) {
        this.due = due;
    }

    void run() {
        due.promise(12);
        numbers();
        logRefusals();
        due.promise(26);
        told();
        pairedOrNot();
        pairedWithTheLowest();
        hoursOfPairs();
        counting();
        countingByEitherHour();
        contactsWithOthers();
        fullRows();
        entryRefusals();
        due.promise(27);
        points();
        lands();
        rimsOfLands();
        missed();
        scoreRefusals();
        due.promise(29);
        counts();
    }

    /** Stations 0 at 40 and 1 at 45, which are in contact on 100, 2 at 2, and 3 at 40 too. */
    private static SkipRays four() {
        SkipRays air = new SkipRays();
        air.station(40, 80, SkipRays.EVEN, SkipRays.BOTH);
        air.station(45, 80, SkipRays.EVEN, SkipRays.BOTH);
        air.station(2, 80, SkipRays.EVEN, SkipRays.BOTH);
        air.station(40, 80, SkipRays.EVEN, SkipRays.BOTH);
        return air;
    }

    private void numbers() {
        SkipRays air = four();
        for (int n = 0; n < 80; n++) {
            due.is("entry " + n, air.log(n % 2, 2, 10 + n), n);
        }
        due.full("an 81st", () -> air.log(0, 1, 100));
        due.refused("an 81st of itself", () -> air.log(0, 0, 100));
        due.outside("an 81st of nobody", () -> air.log(0, 4, 100));
        due.is("entries", air.count(3), 80);
    }

    private void logRefusals() {
        SkipRays air = four();
        due.outside("station -1", () -> air.log(-1, 0, 100));
        due.outside("station 4", () -> air.log(4, 0, 100));
        due.outside("other -1", () -> air.log(0, -1, 100));
        due.outside("other 4", () -> air.log(0, 4, 100));
        due.outside("other 4, the station first", () -> air.log(0, 4, 9));
        due.refused("the same", () -> air.log(1, 1, 100));
        due.refused("frequency 9", () -> air.log(0, 1, 9));
        due.refused("frequency 301", () -> air.log(0, 1, 301));
        due.is("entries after refusals", air.count(3), 0);
        due.is("frequency 10", air.log(0, 1, 10), 0);
        due.is("frequency 300", air.log(0, 1, 300), 1);
    }

    private void tells(SkipRays air, int entry, int... wants) {
        for (int what = 0; what < wants.length; what++) {
            due.is("entry " + entry + ", " + what, air.entryOf(entry, what), wants[what]);
        }
    }

    private void told() {
        SkipRays air = four();
        air.pass(3);
        air.log(2, 1, 77);
        air.pass(1);
        air.log(1, 0, 78);
        air.log(1, 2, 77);
        tells(air, 0, 2, 1, 77, 3, 2, 0);
        tells(air, 1, 1, 0, 78, 4, SkipRays.NONE, 0);
        tells(air, 2, 1, 2, 77, 4, 0, 0);
    }

    private void pairedOrNot() {
        SkipRays air = four();
        air.log(0, 1, 100);
        air.log(0, 1, 100);
        due.is("the same once more", air.entryOf(1, 4), SkipRays.NONE);
        air.log(1, 0, 101);
        due.is("another frequency", air.entryOf(2, 4), SkipRays.NONE);
        air.log(1, 2, 100);
        due.is("another one noted", air.entryOf(3, 4), SkipRays.NONE);
        air.log(2, 0, 100);
        due.is("another station", air.entryOf(4, 4), SkipRays.NONE);
        air.log(3, 1, 100);
        due.is("another station at the place", air.entryOf(5, 4), SkipRays.NONE);
        due.is("none is paired", air.count(4), 0);
        air.log(1, 0, 100);
        due.is("the other one", air.entryOf(6, 4), 0);
        due.is("and that with it", air.entryOf(0, 4), 6);
    }

    private void pairedWithTheLowest() {
        SkipRays air = four();
        air.log(0, 1, 100);
        air.log(0, 1, 100);
        air.log(1, 0, 100);
        due.is("the lowest", air.entryOf(2, 4), 0);
        air.log(1, 0, 100);
        due.is("the next one", air.entryOf(3, 4), 1);
        air.log(1, 0, 100);
        due.is("none is left", air.entryOf(4, 4), SkipRays.NONE);
        due.is("the first pair stays", air.entryOf(0, 4), 2);
        due.is("the second pair stays", air.entryOf(1, 4), 3);
        due.is("paired", air.count(4), 4);
    }

    private void hoursOfPairs() {
        SkipRays air = four();
        air.log(0, 1, 100);
        air.pass(1);
        air.log(1, 0, 100);
        due.is("an hour later", air.entryOf(1, 4), 0);
        air.log(0, 1, 100);
        air.pass(2);
        air.log(1, 0, 100);
        due.is("two hours later", air.entryOf(3, 4), SkipRays.NONE);
        due.is("two hours earlier", air.entryOf(2, 4), SkipRays.NONE);
        air.pass(24);
        air.log(0, 1, 100);
        due.is("a day later", air.entryOf(4, 4), SkipRays.NONE);
    }

    private void counting() {
        SkipRays air = four();
        air.log(0, 1, 100);
        air.call(0, 1, 100, 0);
        due.is("with a contact, not paired", air.entryOf(0, 5), 0);
        air.log(1, 0, 100);
        due.is("with a contact, paired", air.entryOf(0, 5), 1);
        due.is("the pair, whoever called", air.entryOf(1, 5), 1);
        air.log(0, 1, 101);
        air.log(1, 0, 101);
        due.is("on another frequency", air.entryOf(2, 5), 0);
        air.call(1, 0, 101, 0);
        due.is("by a contact that came later", air.entryOf(2, 5), 1);
        due.is("and its pair", air.entryOf(3, 5), 1);
        air.log(3, 1, 100);
        air.log(1, 3, 100);
        due.is("another station's contact", air.entryOf(4, 5), 0);
        air.log(2, 1, 100);
        air.log(1, 2, 100);
        due.is("paired without a contact", air.entryOf(6, 5), 0);
    }

    private void countingByEitherHour() {
        SkipRays air = four();
        air.log(0, 1, 100);
        air.call(1, 0, 100, 0);
        air.pass(1);
        air.log(1, 0, 100);
        due.is("the hour of the first", air.entryOf(0, 5), 1);
        due.is("the hour of its pair", air.entryOf(1, 5), 1);
        air.log(0, 1, 101);
        air.pass(1);
        air.log(1, 0, 101);
        air.call(1, 0, 101, 0);
        due.is("the hour of the second", air.entryOf(2, 5), 1);
        due.is("the hour of its own", air.entryOf(3, 5), 1);
        air.log(0, 1, 102);
        air.log(1, 0, 102);
        air.pass(1);
        air.call(1, 0, 102, 0);
        due.is("an hour too late", air.entryOf(4, 5), 0);
        air.call(0, 1, 103, 0);
        air.pass(1);
        air.log(0, 1, 103);
        air.log(1, 0, 103);
        due.is("an hour too early", air.entryOf(6, 5), 0);
    }

    private void contactsWithOthers() {
        SkipRays air = four();
        air.log(0, 1, 100);
        air.log(1, 0, 100);
        due.is("0 calls 2", air.call(0, 2, 100, 2), true);
        due.is("2 calls 0", air.call(2, 0, 100, 2), true);
        due.is("1 calls 2", air.call(1, 2, 100, 2), true);
        due.is("2 calls 1", air.call(2, 1, 100, 2), true);
        due.is("contacts with others", air.entryOf(0, 5), 0);
        due.is("of the other one too", air.entryOf(1, 5), 0);
        due.is("the one calls the other", air.call(1, 0, 100, 2), true);
        due.is("their own contact", air.entryOf(0, 5), 1);
    }

    private void fullRows() {
        SkipRays air = four();
        for (int n = 0; n < 60; n++) {
            due.is("contact " + n, air.call(0, 1, n < 59 ? 100 : 101, 2), true);
        }
        for (int n = 0; n < 80; n++) {
            air.log(n % 2, 1 - n % 2, 101 + n / 2);
        }
        due.is("the last contact", air.entryOf(0, 5), 1);
        due.is("none of 60 contacts", air.entryOf(79, 5), 0);
        due.is("the last entry", air.entryOf(79, 2), 140);
        due.is("paired", air.count(4), 80);
        due.is("a score of 80 entries", air.score(0), 1);
        due.is("a score of none of them", air.score(2), 0);
    }

    private void entryRefusals() {
        SkipRays air = four();
        due.outside("no entry at all", () -> air.entryOf(0, 0));
        air.log(0, 1, 100);
        due.outside("entry -1", () -> air.entryOf(-1, 0));
        due.outside("entry 1", () -> air.entryOf(1, 0));
        due.outside("entry 1, the entry first", () -> air.entryOf(1, 6));
        due.refused("what -1", () -> air.entryOf(0, -1));
        due.refused("what 6", () -> air.entryOf(0, 6));
    }

    /** A contact that both note counts for both. */
    private static void work(SkipRays air, int station, int other, int frequency) {
        air.call(station, other, frequency, SkipRays.SLOW);
        air.log(station, other, frequency);
        air.log(other, station, frequency);
    }

    private void points() {
        SkipRays air = four();
        due.is("without entries", air.score(0), 0);
        work(air, 0, 1, 100);
        due.is("5 places, 1 point", air.score(0), 1);
        due.is("the other one", air.score(1), 1);
        due.is("neither of them", air.score(2), 0);
        work(air, 0, 2, 100);
        due.is("contacts", air.count(2), 2);
        due.is("5 and 10 places, (1 + 2) * 2", air.score(0), 6);
        due.is("10 places the shorter way, 2", air.score(2), 2);
        work(air, 0, 2, 100);
        due.is("the same once more, (1 + 2 + 2) * 2", air.score(0), 10);
        work(air, 0, 3, 10);
        due.is("0 places, (1 + 2 + 2 + 1) * 3", air.score(0), 18);
        air.log(0, 1, 50);
        due.is("an entry that is not paired", air.score(0), 18);
        air.log(1, 0, 50);
        due.is("paired without a contact", air.score(0), 18);
        due.is("the other one of these", air.score(1), 1);
    }

    private void lands() {
        SkipRays air = new SkipRays();
        air.station(0, 80, SkipRays.EVEN, SkipRays.BOTH);
        int[] places = {5, 4, 5, 43, 42, 41};
        int[] wants = {1, 2, 3, 4 * 2, 6 * 2, 8 * 3};
        for (int n = 0; n < places.length; n++) {
            air.station(places[n], 80, SkipRays.EVEN, SkipRays.BOTH);
            work(air, 0, n + 1, frequencyTo(places[n]));
            due.is("contacts", air.count(2), n + 1);
            due.is("score with " + (n + 1), air.score(0), wants[n]);
        }
    }

    private void rimsOfLands() {
        SkipRays air = new SkipRays();
        int[] places = {0, 5, 6, 10, 41};
        int[] wants = {0, 1, (1 + 2) * 2, (1 + 2 + 2) * 2, (1 + 2 + 2 + 2) * 3};
        for (int n = 0; n < places.length; n++) {
            air.station(places[n], 80, SkipRays.EVEN, SkipRays.BOTH);
            if (n > 0) {
                work(air, 0, n, 42);
            }
            due.is("contacts", air.count(2), n);
            due.is("score with " + n, air.score(0), wants[n]);
        }
    }

    /** In the dark: a leg of 4 places for 4, two of 3 for 6, one of 5 for 5, seven of 1 for 7. */
    private static int frequencyTo(int place) {
        return place == 41 ? 42 : 100;
    }

    private void missed() {
        SkipRays air = four();
        air.log(0, 1, 100);
        air.pass(1);
        due.is("an hour ago", air.score(0), 0);
        air.log(0, 2, 100);
        air.pass(1);
        due.is("two hours ago, and one", air.score(0), -3);
        due.is("the one that is noted", air.score(1), 0);
        air.pass(1);
        due.is("three hours ago, and two", air.score(0), -6);
        air.log(1, 0, 100);
        due.is("too late to be paired", air.score(0), -6);
        air.log(2, 3, 100);
        air.log(3, 2, 100);
        air.pass(48);
        due.is("paired, without a contact", air.score(2), 0);
        due.is("the other one", air.score(1), -3);
        work(air, 0, 1, 100);
        due.is("one that counts", air.score(0), 1 - 6);
        due.is("the other one", air.score(1), 1 - 3);
    }

    private void scoreRefusals() {
        SkipRays air = new SkipRays();
        due.outside("no station at all", () -> air.score(0));
        air.station(0, 1, 0, 0);
        due.outside("station -1", () -> air.score(-1));
        due.outside("station 1", () -> air.score(1));
        due.is("station 0", air.score(0), 0);
    }

    private void counts() {
        SkipRays air = four();
        air.beacon(0, 10, 1);
        air.beacon(0, 10, 1);
        air.call(0, 1, 100, 0);
        air.call(0, 1, 100, 0);
        air.call(0, 1, 100, 0);
        air.call(0, 1, 300, 0);
        air.log(0, 1, 100);
        air.log(0, 1, 100);
        air.log(1, 0, 100);
        air.log(1, 2, 100);
        air.log(2, 3, 100);
        due.is("stations", air.count(0), 4);
        due.is("beacons", air.count(1), 2);
        due.is("contacts", air.count(2), 3);
        due.is("entries", air.count(3), 5);
        due.is("paired ones", air.count(4), 2);
        air.log(1, 0, 100);
        due.is("paired ones", air.count(4), 4);
        due.refused("count(-1)", () -> air.count(-1));
        due.refused("count(5)", () -> air.count(5));
        due.refused("count(least int)", () -> air.count(Integer.MIN_VALUE));
    }
}
