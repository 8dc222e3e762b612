/**
 * Boundary cases of logs, scores and counts: promises 12, 26, 27 and 29. The stations of a scene are in the dark,
 * and in contact with each other on 100 where 5, 4 or 3 places lie between them.
 */
final class LogEdges extends Edges {
    private static final int EVEN = SkipRays.EVEN;
    private static final int BOTH = SkipRays.BOTH;
    private static final int SLOW = SkipRays.SLOW;
    private static final int NONE = SkipRays.NONE;
    private static final int LEAST = Integer.MIN_VALUE;
    private static final int GREATEST = Integer.MAX_VALUE;

    LogEdges(Due due, int[] tests) {
        super(due, tests);
    }

    /** Stations 0 and 1 that can have contacts, and 2 beside them, without any. */
    private static SkipRays three() {
        SkipRays air = Scenes.two(80, 80);
        air.station(41, 1, EVEN, BOTH);
        return air;
    }

    /** Stations at these places, all strong, sea all round. */
    private static SkipRays stationsAt(int... places) {
        SkipRays air = Scenes.wet();
        for (int place : places) {
            air.station(place, 80, EVEN, BOTH);
        }
        return air;
    }

    private void contact(SkipRays air, int station, int other, int frequency) {
        due.is("a contact of " + station + " and " + other, air.call(station, other, frequency, SLOW), true);
    }

    /** A contact that both note. */
    private void work(SkipRays air, int station, int other, int frequency) {
        contact(air, station, other, frequency);
        air.log(station, other, frequency);
        air.log(other, station, frequency);
    }

    private void pairs(SkipRays air, int... partners) {
        for (int entry = 0; entry < partners.length; entry++) {
            due.is("with which " + entry + " is paired", air.entryOf(entry, 4), partners[entry]);
        }
    }

    // ---- promise 12: log

    void promise12StationsThatAreNot() {
        outside("no station at all", Scenes::fresh, air -> air.log(0, 1, 100));
        outside("-1", Scenes::busy, air -> air.log(-1, 0, 100));
        outside("3 of 3", Scenes::busy, air -> air.log(3, 0, 100));
        outside("-1 is noted", Scenes::busy, air -> air.log(0, -1, 100));
        outside("3 of 3 is noted", Scenes::busy, air -> air.log(0, 3, 100));
        outside("least", Scenes::busy, air -> air.log(LEAST, 0, 100));
        outside("greatest is noted", Scenes::busy, air -> air.log(0, GREATEST, 100));
    }

    void promise12TheLastStation() {
        SkipRays air = new SkipRays();
        for (int n = 0; n < 12; n++) {
            air.station(40, 1, EVEN, BOTH);
        }
        due.is("11 notes 0", air.log(11, 0, 100), 0);
        due.is("0 notes 11", air.log(0, 11, 100), 1);
        pairs(air, 1, 0);
        due.outside("12 of 12", () -> air.log(12, 0, 100));
        due.outside("12 of 12 is noted", () -> air.log(0, 12, 100));
    }

    void promise12FrequenciesThatAreAllowed() {
        SkipRays air = three();
        due.is("on 10", air.log(0, 1, 10), 0);
        due.is("on 300", air.log(0, 1, 300), 1);
        due.is("the first one's frequency", air.entryOf(0, 2), 10);
        due.is("the second one's frequency", air.entryOf(1, 2), 300);
    }

    void promise12FrequenciesThatAreNot() {
        refused("on 9", Scenes::busy, air -> air.log(0, 1, 9));
        refused("on 301", Scenes::busy, air -> air.log(0, 1, 301));
        refused("on 0", Scenes::busy, air -> air.log(0, 1, 0));
        refused("on least", Scenes::busy, air -> air.log(0, 1, LEAST));
        refused("on greatest", Scenes::busy, air -> air.log(0, 1, GREATEST));
    }

    void promise12BothTheSame() {
        refused("0 and 0", Scenes::busy, air -> air.log(0, 0, 100));
        refused("2 and 2", Scenes::busy, air -> air.log(2, 2, 100));
    }

    void promise12TheStationsAheadOfTheRest() {
        outside("3 and 3 of 3", Scenes::busy, air -> air.log(3, 3, 100));
        outside("-1 and -1", Scenes::busy, air -> air.log(-1, -1, 100));
        outside("3 on 9", Scenes::busy, air -> air.log(3, 0, 9));
        outside("-1 is noted on 301", Scenes::busy, air -> air.log(0, -1, 301));
    }

    void promise12AtMost80() {
        SkipRays air = three();
        for (int n = 0; n < 80; n++) {
            due.is("entry " + n, air.log(0, 2, 10 + n), n);
        }
        due.is("entries", air.count(3), 80);
        full("an 81st", Scenes::full, other -> other.log(0, 1, 100));
        full("an 81st that would be paired", Scenes::full, other -> other.log(1, 0, 100));
    }

    void promise12The80thIsPaired() {
        SkipRays air = three();
        for (int n = 0; n < 79; n++) {
            air.log(0, 1, 10 + n);
        }
        due.is("the 80th", air.log(1, 0, 88), 79);
        due.is("with which it is paired", air.entryOf(79, 4), 78);
        due.is("with which that is paired", air.entryOf(78, 4), 79);
        due.is("paired ones", air.count(4), 2);
    }

    void promise12TheRestAheadOfTheFullRow() {
        outside("12 of 12", Scenes::full, air -> air.log(12, 0, 100));
        outside("-1 is noted", Scenes::full, air -> air.log(0, -1, 100));
        refused("on 9", Scenes::full, air -> air.log(0, 1, 9));
        refused("on 301", Scenes::full, air -> air.log(0, 1, 301));
        refused("0 and 0", Scenes::full, air -> air.log(0, 0, 100));
    }

    void promise12PairedInTheSameHourAndTheOneAhead() {
        int[] hours = {0, 1, 2, 3, 24};
        for (int n = 0; n < hours.length; n++) {
            SkipRays air = three();
            air.log(0, 1, 100);
            if (hours[n] > 0) {
                air.pass(hours[n]);
            }
            air.log(1, 0, 100);
            boolean paired = hours[n] <= 1;
            due.is("with which it is paired, " + hours[n] + " hours later", air.entryOf(1, 4), paired ? 0 : NONE);
            due.is("with which the first is, " + hours[n] + " hours later", air.entryOf(0, 4), paired ? 1 : NONE);
            due.is("paired ones, " + hours[n] + " hours later", air.count(4), paired ? 2 : 0);
        }
    }

    void promise12PairedWithTheLowest() {
        SkipRays air = three();
        air.log(0, 1, 100);
        air.log(0, 1, 100);
        air.log(0, 1, 100);
        air.log(1, 0, 100);
        pairs(air, 3, NONE, NONE, 0);
        air.log(1, 0, 100);
        pairs(air, 3, 4, NONE, 0, 1);
    }

    void promise12PairedWithTheLowestThoughOfTheHourAhead() {
        SkipRays air = three();
        air.log(0, 1, 100);
        air.pass(1);
        air.log(0, 1, 100);
        air.log(1, 0, 100);
        pairs(air, 2, NONE, 0);
    }

    void promise12TheLowestOfTheHoursThatDo() {
        SkipRays air = three();
        air.log(0, 1, 100);
        air.pass(2);
        air.log(0, 1, 100);
        air.log(1, 0, 100);
        pairs(air, NONE, 2, 1);
    }

    void promise12NotWithOneThatIsPaired() {
        SkipRays air = three();
        air.log(0, 1, 100);
        air.log(1, 0, 100);
        air.log(1, 0, 100);
        pairs(air, 1, 0, NONE);
        air.log(0, 1, 100);
        pairs(air, 1, 0, 3, 2);
        due.is("paired ones", air.count(4), 4);
    }

    void promise12TheSameFrequencyAlone() {
        SkipRays air = three();
        air.log(0, 1, 100);
        air.log(1, 0, 101);
        air.log(1, 0, 99);
        pairs(air, NONE, NONE, NONE);
        air.log(1, 0, 100);
        pairs(air, 3, NONE, NONE, 0);
    }

    void promise12OfThatOtherStationThatNotesThisOne() {
        SkipRays air = three();
        air.log(0, 1, 100);
        air.log(0, 1, 100);
        air.log(2, 0, 100);
        air.log(1, 2, 100);
        pairs(air, NONE, NONE, NONE, NONE);
        air.log(1, 0, 100);
        pairs(air, 4, NONE, NONE, NONE, 0);
    }

    void promise12ARefusedOneIsNotPaired() {
        SkipRays air = three();
        air.log(0, 1, 100);
        due.refused("on 301", () -> air.log(1, 0, 301));
        due.refused("1 and 1", () -> air.log(1, 1, 100));
        due.outside("3 of 3", () -> air.log(3, 0, 100));
        pairs(air, NONE);
        due.is("the next number", air.log(1, 0, 100), 1);
        pairs(air, 1, 0);
    }

    void promise12InTheLastHour() {
        SkipRays air = Scenes.at(4999);
        air.station(40, 80, EVEN, BOTH);
        air.station(45, 80, EVEN, BOTH);
        air.log(0, 1, 100);
        air.pass(1);
        air.log(1, 0, 100);
        pairs(air, 1, 0);
        due.is("its hour", air.entryOf(1, 3), 5000);
    }

    // ---- promise 26: entryOf

    void promise26EntriesThatAreNot() {
        outside("0 of none", Scenes::fresh, air -> air.entryOf(0, 0));
        outside("0 of none, three stations", LogEdges::three, air -> air.entryOf(0, 0));
        outside("-1", Scenes::busy, air -> air.entryOf(-1, 0));
        outside("behind the last one", Scenes::busy, air -> air.entryOf(air.count(3), 0));
        outside("behind the last one, whether it counts", Scenes::busy, air -> air.entryOf(air.count(3), 5));
        outside("80 of 80", Scenes::full, air -> air.entryOf(80, 0));
        outside("-1 of 80", Scenes::full, air -> air.entryOf(-1, 5));
        outside("least", Scenes::busy, air -> air.entryOf(LEAST, 0));
        outside("greatest", Scenes::busy, air -> air.entryOf(GREATEST, 0));
    }

    void promise26TheFirstAndTheLastOfAll() {
        SkipRays air = Scenes.full();
        int[] first = {0, 1, 100, 0, NONE, 0};
        int[] last = {7, 8, 100, 0, NONE, 0};
        for (int what = 0; what <= 5; what++) {
            due.is("the first one's " + what, air.entryOf(0, what), first[what]);
            due.is("the last one's " + what, air.entryOf(79, what), last[what]);
        }
    }

    void promise26WhatIs0To5() {
        SkipRays air = three();
        air.pass(2);
        contact(air, 1, 0, 101);
        air.log(1, 0, 101);
        air.log(0, 1, 101);
        int[] wants = {1, 0, 101, 2, 1, 1};
        for (int what = 0; what <= 5; what++) {
            due.is("what " + what, air.entryOf(0, what), wants[what]);
        }
        refused("what -1", Scenes::busy, other -> other.entryOf(0, -1));
        refused("what 6", Scenes::busy, other -> other.entryOf(0, 6));
        refused("what least", Scenes::busy, other -> other.entryOf(0, LEAST));
        refused("what greatest", Scenes::busy, other -> other.entryOf(0, GREATEST));
    }

    void promise26TheEntryAheadOfWhat() {
        outside("80 of 80, what 6", Scenes::full, air -> air.entryOf(80, 6));
        outside("-1, what -1", Scenes::busy, air -> air.entryOf(-1, -1));
        outside("0 of none, what 6", Scenes::fresh, air -> air.entryOf(0, 6));
    }

    void promise26CountsOnlyIfPaired() {
        SkipRays air = three();
        contact(air, 0, 1, 100);
        air.log(0, 1, 100);
        due.is("not paired", air.entryOf(0, 5), 0);
        air.log(1, 0, 100);
        due.is("paired", air.entryOf(0, 5), 1);
        due.is("the other one", air.entryOf(1, 5), 1);
        air.log(1, 0, 100);
        due.is("once more, not paired", air.entryOf(2, 5), 0);
    }

    void promise26CountsOnlyWithAContactByNow() {
        SkipRays air = three();
        air.log(0, 1, 100);
        air.log(1, 0, 100);
        due.is("no contact yet", air.entryOf(0, 5), 0);
        contact(air, 0, 1, 100);
        due.is("by now", air.entryOf(0, 5), 1);
        due.is("the other one", air.entryOf(1, 5), 1);
    }

    void promise26WhoeverCalled() {
        for (int caller = 0; caller <= 1; caller++) {
            SkipRays air = three();
            contact(air, caller, 1 - caller, 100);
            air.log(0, 1, 100);
            air.log(1, 0, 100);
            due.is(caller + " called, the first one", air.entryOf(0, 5), 1);
            due.is(caller + " called, the second one", air.entryOf(1, 5), 1);
        }
    }

    void promise26OnThisFrequencyAlone() {
        SkipRays air = three();
        contact(air, 0, 1, 99);
        contact(air, 0, 1, 101);
        air.log(0, 1, 100);
        air.log(1, 0, 100);
        due.is("contacts on 99 and 101", air.entryOf(0, 5), 0);
        contact(air, 0, 1, 100);
        due.is("a contact on 100", air.entryOf(0, 5), 1);
    }

    /** Entries of the hours 3 and 4; a contact of the hour 2, 3, 4 or 5. */
    void promise26InTheHourOfOneOfBoth() {
        for (int hour = 2; hour <= 5; hour++) {
            SkipRays air = three();
            air.pass(2);
            for (int now = 2; now <= 5; now++) {
                if (now == hour) {
                    contact(air, 0, 1, 100);
                }
                if (now == 3 || now == 4) {
                    air.log(4 - now, now - 3, 100);
                }
                air.pass(1);
            }
            int wanted = hour == 3 || hour == 4 ? 1 : 0;
            due.is("the entry of 3, contact at " + hour, air.entryOf(0, 5), wanted);
            due.is("the entry of 4, contact at " + hour, air.entryOf(1, 5), wanted);
        }
    }

    void promise26BothInOneHour() {
        for (int hour = 2; hour <= 4; hour++) {
            SkipRays air = three();
            air.pass(2);
            for (int now = 2; now <= 4; now++) {
                if (now == hour) {
                    contact(air, 1, 0, 100);
                }
                if (now == 3) {
                    air.log(0, 1, 100);
                    air.log(1, 0, 100);
                }
                air.pass(1);
            }
            due.is("entries of 3, contact at " + hour, air.entryOf(0, 5), hour == 3 ? 1 : 0);
            due.is("the other one, contact at " + hour, air.entryOf(1, 5), hour == 3 ? 1 : 0);
        }
    }

    void promise26OfBothStationsAlone() {
        SkipRays air = stationsAt(40, 45, 2);
        air.log(0, 1, 100);
        air.log(1, 0, 100);
        contact(air, 0, 2, 100);
        contact(air, 2, 0, 100);
        contact(air, 1, 2, 100);
        contact(air, 2, 1, 100);
        due.is("contacts with another one", air.entryOf(0, 5), 0);
        due.is("contacts of the other one", air.entryOf(1, 5), 0);
        contact(air, 1, 0, 100);
        due.is("their contact", air.entryOf(0, 5), 1);
    }

    /** Of each two of three stations the entries, of each two the contact: it is of both, or it is not. */
    void promise26OfWhichStationsEverTheContactIs() {
        for (int pair = 0; pair < 6; pair++) {
            for (int called = 0; called < 6; called++) {
                SkipRays air = stationsAt(40, 45, 2);
                int one = pair / 2;
                int other = (one + 1 + pair % 2) % 3;
                int caller = called / 2;
                int callee = (caller + 1 + called % 2) % 3;
                contact(air, caller, callee, 100);
                air.log(one, other, 100);
                air.log(other, one, 100);
                boolean theirs = one == caller && other == callee || one == callee && other == caller;
                String what = one + " and " + other + " note, " + caller + " calls " + callee;
                due.is("the first entry, " + what, air.entryOf(0, 5), theirs ? 1 : 0);
                due.is("the second entry, " + what, air.entryOf(1, 5), theirs ? 1 : 0);
            }
        }
    }

    void promise26OneContactCountsForAll() {
        SkipRays air = three();
        contact(air, 0, 1, 100);
        for (int n = 0; n < 40; n++) {
            air.log(0, 1, 100);
            air.log(1, 0, 100);
        }
        due.is("the first entry", air.entryOf(0, 5), 1);
        due.is("the 80th entry", air.entryOf(79, 5), 1);
        due.is("the score", air.score(0), 40);
    }

    void promise26ByTheLastOf60Contacts() {
        SkipRays air = three();
        for (int n = 0; n < 59; n++) {
            contact(air, 0, 1, 99);
        }
        air.log(0, 1, 100);
        air.log(1, 0, 100);
        due.is("59 contacts on 99", air.entryOf(0, 5), 0);
        contact(air, 0, 1, 100);
        due.is("the 60th on 100", air.entryOf(0, 5), 1);
    }

    void promise26AQuestionChangesNothing() {
        asking("entryOf", Scenes::busy, air -> {
            for (int n = 0; n < 30; n++) {
                air.entryOf(n % 5, n / 5);
            }
        });
    }

    // ---- promise 27: score

    void promise27StationsThatAreNot() {
        outside("0 of none", Scenes::fresh, air -> air.score(0));
        outside("-1", Scenes::busy, air -> air.score(-1));
        outside("3 of 3", Scenes::busy, air -> air.score(3));
        outside("12 of 12", Scenes::full, air -> air.score(12));
        outside("least", Scenes::busy, air -> air.score(LEAST));
        outside("greatest", Scenes::busy, air -> air.score(GREATEST));
    }

    void promise27WithoutEntries() {
        SkipRays air = three();
        due.is("the first station", air.score(0), 0);
        due.is("the last station", air.score(2), 0);
        contact(air, 0, 1, 100);
        air.pass(48);
        due.is("a contact alone", air.score(0), 0);
    }

    void promise27NotPairedFor2Hours() {
        SkipRays air = three();
        air.log(0, 1, 100);
        due.is("in its hour", air.score(0), 0);
        air.pass(1);
        due.is("1 hour ago", air.score(0), 0);
        air.pass(1);
        due.is("2 hours ago", air.score(0), -3);
        air.pass(1);
        due.is("3 hours ago", air.score(0), -3);
        air.pass(48);
        due.is("51 hours ago", air.score(0), -3);
        due.is("the one that was noted", air.score(1), 0);
    }

    void promise27NotPairedFor2HoursOfALaterHour() {
        SkipRays air = three();
        air.pass(10);
        air.log(0, 1, 100);
        due.is("in its hour", air.score(0), 0);
        air.pass(1);
        due.is("1 hour ago", air.score(0), 0);
        air.log(0, 1, 99);
        air.pass(1);
        due.is("2 hours ago, and 1 hour ago", air.score(0), -3);
        air.pass(1);
        due.is("3 hours ago, and 2 hours ago", air.score(0), -6);
    }

    void promise27EachThatIsNotPaired() {
        SkipRays air = three();
        for (int n = 0; n < 80; n++) {
            air.log(0, 1, 10 + n);
        }
        air.pass(2);
        due.is("80 of them", air.score(0), -240);
        due.is("of the others none", air.score(1), 0);
    }

    void promise27PairedWithoutAContactIsNothing() {
        SkipRays air = three();
        air.log(0, 1, 100);
        air.log(1, 0, 100);
        air.pass(2);
        due.is("2 hours ago", air.score(0), 0);
        due.is("the other one", air.score(1), 0);
    }

    void promise27WhatCountsAndWhatIsNotPaired() {
        SkipRays air = three();
        work(air, 0, 1, 100);
        air.log(0, 1, 100);
        due.is("at once", air.score(0), 1);
        air.pass(2);
        due.is("2 hours later, 1 less 3", air.score(0), -2);
        due.is("the other one", air.score(1), 1);
    }

    /** The sum times the lands first, then less 3 for each: (1 + 2) * 2 - 3 * 2. */
    void promise27TimesTheLandsAheadOfWhatIsLess() {
        SkipRays air = stationsAt(40, 45, 2);
        work(air, 0, 1, 100);
        work(air, 0, 2, 100);
        air.log(0, 1, 100);
        air.log(0, 2, 100);
        due.is("at once", air.score(0), 6);
        air.pass(2);
        due.is("2 hours later", air.score(0), 0);
    }

    private void scoreOf(int from, int to, int frequency, int wanted) {
        SkipRays air = stationsAt(from, to);
        work(air, 0, 1, frequency);
        due.is("the score from " + from + " to " + to, air.score(0), wanted);
        due.is("the score from " + to + " to " + from, air.score(1), wanted);
    }

    /** 1, and the distance divided by 6. */
    void promise27TheDistanceDividedBy6RoundedDown() {
        scoreOf(40, 40, 10, 1);
        scoreOf(40, 41, 42, 1);
        scoreOf(36, 41, 100, 1);
        scoreOf(36, 42, 100, 2);
        scoreOf(36, 46, 100, 2);
        scoreOf(36, 0, 100, 3);
        scoreOf(36, 12, 100, 5);
    }

    /** Legs of 1 place by E above the stations, of 2 places by F between them. */
    void promise27ADistanceOf11() {
        SkipRays air = stationsAt(36, 47);
        air.cloud(36, 90, 1);
        air.cloud(47, 90, 1);
        work(air, 0, 1, 92);
        due.is("11 places", air.score(0), 2);
    }

    void promise27TheDistanceByTheShorterWay() {
        scoreOf(36, 8, 100, 4);
        scoreOf(36, 12, 100, 5);
        scoreOf(36, 13, 100, 4);
        scoreOf(45, 2, 100, 1);
        scoreOf(47, 0, 42, 1);
        scoreOf(47, 5, 100, 2);
    }

    /** Of the places 0 to 5, 6 to 11 and so on to 42 to 47. */
    void promise27LandsAreThePlacesDividedBy6() {
        SkipRays air = stationsAt(44, 0, 4, 1, 41, 40, 47);
        work(air, 0, 1, 100);
        due.is("0, 4 places", air.score(0), 1);
        work(air, 0, 2, 100);
        due.is("and 4 in the same land, 8 places", air.score(0), 3);
        work(air, 0, 3, 100);
        due.is("and 1 in the same land, 5 places", air.score(0), 4);
        work(air, 0, 4, 100);
        due.is("and 41 in another one, 3 places", air.score(0), 5 * 2);
        work(air, 0, 5, 100);
        due.is("and 40 in the same one, 4 places", air.score(0), 6 * 2);
        work(air, 0, 6, 100);
        due.is("and 47 in that of its own, 3 places", air.score(0), 7 * 3);
    }

    void promise27LandsOnBothSidesOfARim() {
        SkipRays air = stationsAt(1, 5, 6);
        work(air, 0, 1, 100);
        due.is("5", air.score(0), 1);
        work(air, 0, 2, 100);
        due.is("5 and 6", air.score(0), 2 * 2);
        SkipRays other = stationsAt(8, 11, 12);
        work(other, 0, 1, 100);
        due.is("11", other.score(0), 1);
        work(other, 0, 2, 100);
        due.is("11 and 12", other.score(0), 2 * 2);
        SkipRays rim = stationsAt(44, 47, 0);
        work(rim, 0, 1, 100);
        due.is("47", rim.score(0), 1);
        work(rim, 0, 2, 100);
        due.is("47 and 0", rim.score(0), 2 * 2);
    }

    void promise27TheSameStationTwiceIsOneLand() {
        SkipRays air = stationsAt(40, 45);
        work(air, 0, 1, 100);
        work(air, 0, 1, 99);
        due.is("two entries", air.score(0), 2);
    }

    void promise27LandsOfTheEntriesThatCountAlone() {
        SkipRays air = stationsAt(40, 45, 2);
        work(air, 0, 1, 100);
        air.log(0, 2, 100);
        due.is("not paired", air.score(0), 1);
        air.log(2, 0, 100);
        due.is("paired, without a contact", air.score(0), 1);
        contact(air, 2, 0, 100);
        due.is("it counts", air.score(0), 3 * 2);
    }

    void promise27TheLastStation() {
        SkipRays air = Scenes.full();
        due.is("11 of 12", air.score(11), 0);
        air.pass(2);
        due.is("11 of 12, 6 entries 2 hours ago", air.score(11), -18);
        due.is("0 of 12, 7 entries 2 hours ago", air.score(0), -21);
    }

    void promise27AQuestionChangesNothing() {
        asking("score", Scenes::busy, air -> {
            for (int n = 0; n < 30; n++) {
                air.score(n % 3);
            }
        });
    }

    // ---- promise 29: count

    void promise29WhatIs0To4() {
        SkipRays air = Scenes.full();
        int[] wants = {12, 6, 60, 80, 0};
        for (int what = 0; what <= 4; what++) {
            due.is("what " + what, air.count(what), wants[what]);
        }
        refused("what -1", Scenes::busy, other -> other.count(-1));
        refused("what 5", Scenes::busy, other -> other.count(5));
        refused("what least", Scenes::busy, other -> other.count(LEAST));
        refused("what greatest", Scenes::busy, other -> other.count(GREATEST));
        refused("what 5 of a new object", Scenes::fresh, other -> other.count(5));
    }

    void promise29NoneAtFirst() {
        for (int what = 0; what <= 4; what++) {
            due.is("what " + what, new SkipRays().count(what), 0);
        }
    }

    void promise29BothOfEachPair() {
        SkipRays air = three();
        air.log(0, 1, 100);
        due.is("one entry", air.count(4), 0);
        air.log(1, 0, 100);
        due.is("a pair", air.count(4), 2);
        air.log(1, 0, 100);
        due.is("and another one", air.count(4), 2);
        air.log(0, 1, 100);
        due.is("two pairs", air.count(4), 4);
    }

    void promise29AllOf80Paired() {
        SkipRays air = three();
        for (int n = 0; n < 80; n++) {
            air.log(n % 2, 1 - n % 2, 100);
        }
        due.is("entries", air.count(3), 80);
        due.is("paired ones", air.count(4), 80);
        due.full("an 81st", () -> air.log(0, 1, 100));
        due.is("paired ones then", air.count(4), 80);
    }

    void promise29RefusedCallsAreNotCounted() {
        SkipRays air = Scenes.full();
        due.full("a 13th station", () -> air.station(0, 1, EVEN, BOTH));
        due.full("a 7th beacon", () -> air.beacon(0, 100, 1));
        due.full("a 61st contact", () -> air.call(0, 1, 100, SLOW));
        due.full("an 81st entry", () -> air.log(0, 1, 100));
        int[] wants = {12, 6, 60, 80, 0};
        for (int what = 0; what <= 4; what++) {
            due.is("what " + what, air.count(what), wants[what]);
        }
    }

    void promise29CallsWithoutAContactAreNotCounted() {
        SkipRays air = three();
        due.is("lost", air.call(0, 1, 177, SLOW), false);
        due.is("too weak", air.call(0, 2, 100, SLOW), false);
        due.is("contacts", air.count(2), 0);
    }

    void promise29AQuestionChangesNothing() {
        asking("count", Scenes::busy, air -> {
            for (int n = 0; n < 20; n++) {
                air.count(n % 5);
            }
        });
    }
}
