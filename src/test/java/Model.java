import java.util.ArrayList;
import java.util.HashMap;
import java.util.HashSet;
import java.util.List;
import java.util.Map;
import java.util.Set;

/**
 * The document once more, in another form than SkipRays: whatever ends is held with the hour of its end,
 * rays are written out leg by leg, and nothing is kept that can be worked out.
 */
final class Model {
    record Passing(int strength, int told, int hours) { }

    record Leg(int end, int layer, int length, int strength) { }

    record Path(int direction, int angle, int legs, int byE, int strength, int delay) { }

    record Station(int place, int power, int antenna, int heading) { }

    record Beacon(Station station, int frequency) { }

    record Contact(int caller, int called, int frequency, int mode, int hour) { }

    record Entry(int station, int other, int frequency, int hour) { }

    private int hour;
    private int sun = 50;
    private Passing storm;
    private Passing flare;
    private final Map<Integer, Passing> clouds = new HashMap<>();
    private final Set<Integer> seas = new HashSet<>();
    private final Map<Integer, Integer> noises = new HashMap<>();
    private final List<Station> stations = new ArrayList<>();
    private final List<Beacon> beacons = new ArrayList<>();
    private final List<Contact> contacts = new ArrayList<>();
    private final List<Entry> entries = new ArrayList<>();
    private final Map<Integer, Integer> pairs = new HashMap<>();
    private final List<Boolean> forecasts = new ArrayList<>();

    private static void exists(boolean is) {
        if (!is) {
            throw new IndexOutOfBoundsException();
        }
    }

    private static void place(int place) {
        exists(place >= 0 && place <= 47);
    }

    private static void legal(boolean is) {
        if (!is) {
            throw new IllegalArgumentException();
        }
    }

    private static void range(int number, int least, int most) {
        legal(number >= least && number <= most);
    }

    private static void state(boolean is) {
        if (!is) {
            throw new IllegalStateException();
        }
    }

    int sun(int level) {
        range(level, 0, 100);
        int was = sun;
        sun = level;
        return was;
    }

    void storm(int strength, int hours) {
        range(strength, 1, 60);
        range(hours, 1, 72);
        storm = new Passing(strength, hour, hours);
    }

    int flare(int size) {
        range(size, 1, 80);
        int was = flareNow();
        flare = new Passing(size, hour, 0);
        return was;
    }

    void cloud(int place, int strength, int hours) {
        place(place);
        range(strength, 1, 100);
        range(hours, 1, 24);
        clouds.put(place, new Passing(strength, hour, hours));
    }

    boolean sea(int place, boolean is) {
        place(place);
        return is ? !seas.add(place) : seas.remove(place);
    }

    int noise(int place, int level) {
        place(place);
        range(level, 0, 40);
        Integer was = noises.put(place, level);
        return was == null ? 0 : was;
    }

    int pass(int hours) {
        range(hours, 1, 48);
        state(hour + hours <= 5000);
        hour += hours;
        return hour;
    }

    int station(int place, int power, int antenna, int heading) {
        place(place);
        range(power, 1, 80);
        range(antenna, 0, 2);
        range(heading, 0, 2);
        state(stations.size() < 12);
        stations.add(new Station(place, power, antenna, heading));
        return stations.size() - 1;
    }

    int beacon(int place, int frequency, int power) {
        place(place);
        range(frequency, 10, 300);
        range(power, 1, 80);
        state(beacons.size() < 6);
        beacons.add(new Beacon(new Station(place, power, SkipRays.EVEN, SkipRays.BOTH), frequency));
        return beacons.size() - 1;
    }

    boolean call(int station, int other, int frequency, int mode) {
        isStation(station);
        isStation(other);
        range(frequency, 10, 300);
        range(mode, 0, 2);
        legal(station != other);
        state(contacts.size() < 60);
        int need = mode == SkipRays.VOICE ? 10 : mode == SkipRays.KEYED ? 4 : -2;
        boolean is = signal(station, other, frequency) >= need && signal(other, station, frequency) >= need;
        if (is) {
            contacts.add(new Contact(station, other, frequency, mode, hour));
        }
        return is;
    }

    int log(int station, int other, int frequency) {
        isStation(station);
        isStation(other);
        range(frequency, 10, 300);
        legal(station != other);
        state(entries.size() < 80);
        int made = entries.size();
        Entry sameHour = new Entry(other, station, frequency, hour);
        Entry hourAhead = new Entry(other, station, frequency, hour - 1);
        for (int n = 0; n < made && !pairs.containsKey(made); n++) {
            Entry entry = entries.get(n);
            if (!pairs.containsKey(n) && (entry.equals(sameHour) || entry.equals(hourAhead))) {
                pairs.put(n, made);
                pairs.put(made, n);
            }
        }
        entries.add(new Entry(station, other, frequency, hour));
        return made;
    }

    int listen(int place) {
        place(place);
        int bits = 0;
        int bit = 1;
        for (Beacon beacon : beacons) {
            Integer signal = signalOf(beacon.station(), beacon.frequency(), place, false);
            Integer foretold = signalOf(beacon.station(), beacon.frequency(), place, true);
            boolean heard = signal != null && signal >= 0;
            forecasts.add(heard == (foretold != null && foretold >= 0));
            bits += heard ? bit : 0;
            bit *= 2;
        }
        return bits;
    }

    int hour() {
        return hour;
    }

    int light(int place, int later) {
        place(place);
        range(later, 0, 24);
        int[] byLocalHour = {0, 0, 0, 0, 0, 0, 0, 1, 2, 3, 4, 5, 6, 5, 4, 3, 2, 1, 0, 0, 0, 0, 0, 0};
        return byLocalHour[(hour + later + place / 2) % 24];
    }

    int density(int place, int layer) {
        place(place);
        range(layer, 0, 2);
        return dense(place, layer, false);
    }

    private int flareNow() {
        return flare == null || hour - flare.told() > 30 ? 0 : flare.strength() >> (hour - flare.told());
    }

    private int now(Passing passing) {
        return passing == null || hour >= passing.told() + passing.hours() ? 0 : passing.strength();
    }

    private int dense(int place, int layer, boolean calm) {
        int light = light(place, 0);
        if (layer == SkipRays.D) {
            return light == 0 || calm ? 2 * light : 2 * light + flareNow();
        }
        if (layer == SkipRays.E) {
            return 10 + light * 6 + (calm ? 0 : now(clouds.get(place)));
        }
        int density = 30 + light * 5 + sun / (light == 0 ? 4 : 2) - (calm ? 0 : now(storm));
        return density < 5 ? 5 : density;
    }

    private static int onward(int place, int direction, int length) {
        int at = place;
        for (int n = 0; n < length; n++) {
            at += direction == SkipRays.EAST ? 1 : 47;
        }
        return at % 48;
    }

    private boolean bends(int place, int layer, int angle, int frequency, boolean calm) {
        return dense(place, layer, calm) * (46 - 4 * angle) >= 10 * frequency;
    }

    /** The legs to the end of which a ray comes. */
    private List<Leg> ray(int from, int direction, int angle, int frequency, int strength, boolean calm) {
        List<Leg> legs = new ArrayList<>();
        int at = from;
        int left = strength;
        while (legs.size() < 10) {
            int byE = (10 - angle) / 4;
            int byF = (11 - angle) / 2;
            int layer;
            if (bends(onward(at, direction, byE / 2), SkipRays.E, angle, frequency, calm)) {
                layer = SkipRays.E;
            } else if (bends(onward(at, direction, byF / 2), SkipRays.F, angle, frequency, calm)) {
                layer = SkipRays.F;
            } else {
                return legs;
            }
            int length = layer == SkipRays.E ? byE : byF;
            int end = onward(at, direction, length);
            if (!legs.isEmpty()) {
                left -= seas.contains(at) ? 3 : 6;
            }
            left -= 2;
            left -= length;
            left -= (dense(at, SkipRays.D, calm) + dense(end, SkipRays.D, calm)) * 40 / frequency;
            if (left < 0) {
                return legs;
            }
            legs.add(new Leg(end, layer, length, left));
            at = end;
        }
        return legs;
    }

    private int land(int place, boolean east, int angle, int frequency, int leg) {
        place(place);
        range(angle, 1, 9);
        range(frequency, 10, 300);
        range(leg, 1, 10);
        List<Leg> legs = ray(place, east ? SkipRays.EAST : SkipRays.WEST, angle, frequency, 1000000, false);
        return legs.size() < leg ? SkipRays.NONE : legs.get(leg - 1).end();
    }

    int landing(int place, boolean east, int angle, int frequency, int leg) {
        return land(place, east, angle, frequency, leg);
    }

    int landingAnew(int place, boolean east, int angle, int frequency, int leg) {
        return land(place, east, angle, frequency, leg);
    }

    private Path pathOf(int direction, int angle, List<Leg> legs, int to) {
        int byE = 0;
        int delay = 0;
        for (int n = 0; n < legs.size(); n++) {
            Leg leg = legs.get(n);
            byE += leg.layer() == SkipRays.E ? 1 : 0;
            delay += 10 * leg.length() + (leg.layer() == SkipRays.E ? 2 : 5);
            if (leg.end() == to) {
                return new Path(direction, angle, n + 1, byE, leg.strength(), delay);
            }
        }
        return null;
    }

    private List<Path> all(int from, int to, int frequency, int strength) {
        List<Path> paths = new ArrayList<>();
        for (int direction = 0; direction <= 1; direction++) {
            for (int angle = 1; angle <= 9; angle++) {
                Path path = pathOf(direction, angle, ray(from, direction, angle, frequency, strength, false), to);
                if (path != null) {
                    paths.add(path);
                }
            }
        }
        return paths;
    }

    private List<Path> asked(int from, int to, int frequency, int strength) {
        place(from);
        place(to);
        range(frequency, 10, 300);
        range(strength, 0, 100);
        return all(from, to, frequency, strength);
    }

    int paths(int from, int to, int frequency, int strength) {
        return asked(from, to, frequency, strength).size();
    }

    int path(int from, int to, int frequency, int strength, int path, int what) {
        List<Path> paths = asked(from, to, frequency, strength);
        range(what, 0, 5);
        exists(path >= 0 && path < paths.size());
        Path it = paths.get(path);
        int[] told = {it.direction(), it.angle(), it.legs(), it.byE(), it.strength(), it.delay()};
        return told[what];
    }

    int explain(int from, int to, int frequency, int strength, int delay) {
        List<Path> paths = asked(from, to, frequency, strength);
        range(delay, 0, 1000);
        for (int off = 0; off <= 2000; off++) {
            for (int n = 0; n < paths.size(); n++) {
                if (Math.abs(paths.get(n).delay() - delay) == off) {
                    return n;
                }
            }
        }
        return SkipRays.NONE;
    }

    int usable(int from, int to, int strength, boolean greatest) {
        place(from);
        place(to);
        range(strength, 0, 100);
        int found = SkipRays.NONE;
        for (int frequency = 10; frequency <= 300; frequency += 10) {
            if (!all(from, to, frequency, strength).isEmpty() && (greatest || found == SkipRays.NONE)) {
                found = frequency;
            }
        }
        return found;
    }

    int skipped(int place, boolean east, int frequency) {
        place(place);
        range(frequency, 10, 300);
        int least = 100;
        for (int angle = 1; angle <= 9; angle++) {
            List<Leg> legs = ray(place, east ? SkipRays.EAST : SkipRays.WEST, angle, frequency, 1000000, false);
            least = legs.isEmpty() ? least : Math.min(least, legs.get(0).length());
        }
        return least == 100 ? SkipRays.NONE : least == 0 ? 0 : least - 1;
    }

    private void isStation(int station) {
        exists(station >= 0 && station < stations.size());
    }

    private static int atFirst(Station station, int direction, int angle) {
        int[] byAntenna = {10 - 2 * angle, 2 * angle - 10, 0};
        int strength = station.power() + byAntenna[station.antenna()];
        if (station.heading() == SkipRays.BOTH) {
            return strength - 3;
        }
        return station.heading() == direction ? strength : strength - 20;
    }

    private Integer signalOf(Station station, int frequency, int place, boolean calm) {
        Integer strongest = null;
        for (int direction = 0; direction <= 1; direction++) {
            for (int angle = 1; angle <= 9; angle++) {
                int begins = atFirst(station, direction, angle);
                if (begins < 0) {
                    continue;
                }
                Path path = pathOf(direction, angle,
                        ray(station.place(), direction, angle, frequency, begins, calm), place);
                if (path != null && (strongest == null || path.strength() > strongest)) {
                    strongest = path.strength();
                }
            }
        }
        if (strongest == null) {
            return null;
        }
        return strongest - noises.getOrDefault(place, 0) - (light(place, 0) == 0 ? 3 : 0);
    }

    int signal(int station, int other, int frequency) {
        isStation(station);
        isStation(other);
        range(frequency, 10, 300);
        legal(station != other);
        Integer signal = signalOf(stations.get(station), frequency, stations.get(other).place(), false);
        return signal == null ? -1000 : signal;
    }

    int contactOf(int contact, int what) {
        exists(contact >= 0 && contact < contacts.size());
        range(what, 0, 4);
        Contact it = contacts.get(contact);
        int[] told = {it.caller(), it.called(), it.frequency(), it.mode(), it.hour()};
        return told[what];
    }

    private boolean entryCounts(int number) {
        Integer pair = pairs.get(number);
        if (pair == null) {
            return false;
        }
        Entry entry = entries.get(number);
        for (Contact contact : contacts) {
            boolean theirs = Set.of(contact.caller(), contact.called()).equals(Set.of(entry.station(), entry.other()));
            boolean then = contact.hour() == entry.hour() || contact.hour() == entries.get(pair).hour();
            if (theirs && then && contact.frequency() == entry.frequency()) {
                return true;
            }
        }
        return false;
    }

    int entryOf(int entry, int what) {
        exists(entry >= 0 && entry < entries.size());
        range(what, 0, 5);
        Entry it = entries.get(entry);
        int[] told = {it.station(), it.other(), it.frequency(), it.hour(),
            pairs.getOrDefault(entry, SkipRays.NONE), entryCounts(entry) ? 1 : 0};
        return told[what];
    }

    int score(int station) {
        isStation(station);
        int points = 0;
        int lost = 0;
        Set<Integer> lands = new HashSet<>();
        for (int n = 0; n < entries.size(); n++) {
            Entry entry = entries.get(n);
            if (entry.station() == station && entryCounts(n)) {
                int there = stations.get(entry.other()).place();
                int way = (there - stations.get(station).place() + 48) % 48;
                points += 1 + (way > 24 ? 48 - way : way) / 6;
                lands.add(there / 6);
            }
            if (entry.station() == station && !pairs.containsKey(n) && entry.hour() <= hour - 2) {
                lost += 3;
            }
        }
        return points * lands.size() - lost;
    }

    int forecasts(boolean right) {
        int counted = 0;
        for (boolean one : forecasts) {
            counted += one || !right ? 1 : 0;
        }
        return counted;
    }

    int count(int what) {
        range(what, 0, 4);
        int[] counts = {stations.size(), beacons.size(), contacts.size(), entries.size(), pairs.size()};
        return counts[what];
    }
}
