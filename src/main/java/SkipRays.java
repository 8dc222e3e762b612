/**
 * Radio by the high air: layers that follow the light, rays that hop by them,
 * stations that call and log one another, beacons that are listened for.
 */
public final class SkipRays {
    /** None. */
    public static final int NONE = -1;
    /** Layers. */
    public static final int D = 0, E = 1, F = 2;
    /** Antennas. */
    public static final int LOW = 0, HIGH = 1, EVEN = 2;
    /** Headings, and directions. */
    public static final int EAST = 0, WEST = 1, BOTH = 2;
    /** Modes. */
    public static final int VOICE = 0, KEYED = 1, SLOW = 2;

    private static final int PLACES = 48;
    private static final int LAST_HOUR = 5000;
    private static final int DAY = 24;
    private static final int NOON = 12;
    private static final int LAYERS = 3;
    private static final int ANGLES = 9;
    private static final int RAYS = 2 * ANGLES;
    private static final int LEGS = 10;
    private static final int LEAST_FREQUENCY = 10;
    private static final int GREATEST_FREQUENCY = 300;
    private static final int FREQUENCY_STEP = 10;
    private static final int NO_SIGNAL = -1000;
    private static final int LAND_WIDTH = 6;
    private static final int MOST_STATIONS = 12;
    private static final int MOST_BEACONS = 6;
    private static final int MOST_CONTACTS = 60;
    private static final int MOST_ENTRIES = 80;

    private final Air air = new Air();
    /** The air as it would be without storm, flare and clouds, for forecasts. */
    private final Air calm = new Air();
    private final Ground ground = new Ground();
    /** The one ray of this object, sent anew for each path that is tried. */
    private final Ray ray = new Ray();
    private final Senders stations = new Senders(MOST_STATIONS);
    private final Senders beacons = new Senders(MOST_BEACONS);
    private final Contacts contacts = new Contacts();
    private final Entries entries = new Entries();
    private int forecastsMade;
    private int forecastsRight;

    /** Land all round; the hour 0. */
    public SkipRays() {
    }

    // ---- the air, the ground

    /** Sets the level of the sun, 0 to 100; returns what it was. */
    public int sun(int level) throws IllegalArgumentException {
        needRange(level, 0, 100);
        int was = air.sunLevel;
        air.shineFrom(level);
        calm.shineFrom(level);
        return was;
    }

    /** Begins a storm of a strength 1 to 60, for 1 to 72 hours. */
    public void storm(int strength, int hours) throws IllegalArgumentException {
        needRange(strength, 1, 60);
        needRange(hours, 1, 72);
        air.beginStorm(strength, hours);
    }

    /** Lets a flare burst, of a size 1 to 80; returns the size that there was. */
    public int flare(int size) throws IllegalArgumentException {
        needRange(size, 1, 80);
        int was = air.flareSize;
        air.burst(size);
        return was;
    }

    /** Lets a cloud come, of a strength 1 to 100, for 1 to 24 hours. */
    public void cloud(int place, int strength, int hours)
            throws IndexOutOfBoundsException, IllegalArgumentException {
        needPlace(place);
        needRange(strength, 1, 100);
        needRange(hours, 1, 24);
        air.coverPlace(place, strength, hours);
    }

    /** Tells whether a place is sea from now on; returns whether it was. */
    public boolean sea(int place, boolean is) throws IndexOutOfBoundsException {
        needPlace(place);
        boolean was = ground.isSea[place];
        ground.isSea[place] = is;
        return was;
    }

    /** Sets the noise of a place, 0 to 40; returns what it was. */
    public int noise(int place, int level) throws IndexOutOfBoundsException, IllegalArgumentException {
        needPlace(place);
        needRange(level, 0, 40);
        int was = ground.noiseLevel[place];
        ground.noiseLevel[place] = level;
        return was;
    }

    /** Lets 1 to 48 hours go by; returns the hour then. */
    public int pass(int hours) throws IllegalArgumentException, IllegalStateException {
        needRange(hours, 1, 48);
        if (air.hourNow + hours > LAST_HOUR) {
            throw new IllegalStateException("above the last hour");
        }
        air.letGoBy(hours);
        calm.letGoBy(hours);
        return air.hourNow;
    }

    // ---- stations, calls, logs

    /** Makes a station; returns its number. */
    public int station(int place, int power, int antenna, int heading)
            throws IndexOutOfBoundsException, IllegalArgumentException, IllegalStateException {
        needPlace(place);
        needRange(power, 1, 80);
        needRange(antenna, LOW, EVEN);
        needRange(heading, EAST, BOTH);
        if (stations.isFull()) {
            throw new IllegalStateException("no more stations");
        }
        return stations.add(place, power, antenna, heading, NONE);
    }

    /** Makes a beacon; returns its number. */
    public int beacon(int place, int frequency, int power)
            throws IndexOutOfBoundsException, IllegalArgumentException, IllegalStateException {
        needPlace(place);
        needFrequency(frequency);
        needRange(power, 1, 80);
        if (beacons.isFull()) {
            throw new IllegalStateException("no more beacons");
        }
        return beacons.add(place, power, EVEN, BOTH, frequency);
    }

    /** Calls; returns whether it is a contact. */
    public boolean call(int station, int other, int frequency, int mode)
            throws IndexOutOfBoundsException, IllegalArgumentException, IllegalStateException {
        needStation(station);
        needStation(other);
        needFrequency(frequency);
        needRange(mode, VOICE, SLOW);
        needDifferent(station, other);
        if (contacts.isFull()) {
            throw new IllegalStateException("no more contacts");
        }
        int needed = neededFor(mode);
        if (signalBetween(station, other, frequency) < needed
                || signalBetween(other, station, frequency) < needed) {
            return false;
        }
        contacts.add(station, other, frequency, mode, air.hourNow);
        return true;
    }

    /** Makes an entry; returns its number. */
    public int log(int station, int other, int frequency)
            throws IndexOutOfBoundsException, IllegalArgumentException, IllegalStateException {
        needStation(station);
        needStation(other);
        needFrequency(frequency);
        needDifferent(station, other);
        if (entries.isFull()) {
            throw new IllegalStateException("no more entries");
        }
        return entries.add(station, other, frequency, air.hourNow);
    }

    /** Listens for all beacons; returns those that are heard, as bits. */
    public int listen(int place) throws IndexOutOfBoundsException {
        needPlace(place);
        int bits = 0;
        for (int n = 0; n < beacons.made; n++) {
            int frequency = beacons.frequency[n];
            boolean heard = signalAt(air, beacons, n, frequency, place) >= 0;
            boolean foretold = signalAt(calm, beacons, n, frequency, place) >= 0;
            if (heard) {
                bits |= 1 << n;
            }
            if (heard == foretold) {
                forecastsRight++;
            }
            forecastsMade++;
        }
        return bits;
    }

    // ---- questions

    /** Returns the hour. */
    public int hour() {
        return air.hourNow;
    }

    /** Returns the light of a place in 0 to 24 hours. */
    public int light(int place, int later) throws IndexOutOfBoundsException, IllegalArgumentException {
        needPlace(place);
        needRange(later, 0, 24);
        return lightIn(air.hourNow + later, place);
    }

    /** Returns the density of a layer over a place. */
    public int density(int place, int layer) throws IndexOutOfBoundsException, IllegalArgumentException {
        needPlace(place);
        needRange(layer, D, F);
        return air.densities[layer][place];
    }

    /** Returns where a ray comes to the end of a leg, whatever its strength; NONE if it is lost. */
    public int landing(int place, boolean east, int angle, int frequency, int leg)
            throws IndexOutOfBoundsException, IllegalArgumentException {
        needRay(place, angle, frequency, leg);
        int step = east ? 1 : -1;
        int at = place;
        for (int gone = 0; gone < leg; gone++) {
            int layer = air.bender(at, step, angle, frequency);
            if (layer == NONE) {
                return NONE;
            }
            at = ring(at + step * lengthBy(layer, angle));
        }
        return at;
    }

    /** Returns the same, found place by place. */
    public int landingAnew(int place, boolean east, int angle, int frequency, int leg)
            throws IndexOutOfBoundsException, IllegalArgumentException {
        needRay(place, angle, frequency, leg);
        int at = place;
        for (int gone = 0; gone < leg; gone++) {
            int length = legAnew(at, east, angle, frequency);
            if (length == NONE) {
                return NONE;
            }
            at = walked(at, east, length);
        }
        return at;
    }

    /** Counts the paths. */
    public int paths(int from, int to, int frequency, int strength)
            throws IndexOutOfBoundsException, IllegalArgumentException {
        needPath(from, to, frequency, strength);
        int found = 0;
        for (int sent = 0; sent < RAYS; sent++) {
            if (reaches(air, from, to, sent, frequency, strength)) {
                found++;
            }
        }
        return found;
    }

    /** Tells of a path: 0 direction, 1 angle, 2 legs, 3 legs by E, 4 strength at its end, 5 delay. */
    public int path(int from, int to, int frequency, int strength, int path, int what)
            throws IndexOutOfBoundsException, IllegalArgumentException {
        needPath(from, to, frequency, strength);
        needRange(what, 0, 5);
        int found = 0;
        for (int sent = 0; sent < RAYS; sent++) {
            if (reaches(air, from, to, sent, frequency, strength)) {
                if (found == path) {
                    return ray.tell(what);
                }
                found++;
            }
        }
        throw new IndexOutOfBoundsException("no such path");
    }

    /** Finds the first path whose delay is nearest to the one that was measured; NONE without a path. */
    public int explain(int from, int to, int frequency, int strength, int delay)
            throws IndexOutOfBoundsException, IllegalArgumentException {
        needPath(from, to, frequency, strength);
        needRange(delay, 0, 1000);
        int found = 0;
        int nearest = NONE;
        int leastOff = 0;
        for (int sent = 0; sent < RAYS; sent++) {
            if (reaches(air, from, to, sent, frequency, strength)) {
                int off = Math.abs(ray.delay - delay);
                if (nearest == NONE || off < leastOff) {
                    nearest = found;
                    leastOff = off;
                }
                found++;
            }
        }
        return nearest;
    }

    /** Returns the greatest or the least frequency of 10, 20 to 300 that has a path; NONE if none has. */
    public int usable(int from, int to, int strength, boolean greatest)
            throws IndexOutOfBoundsException, IllegalArgumentException {
        needPlace(from);
        needPlace(to);
        needStrength(strength);
        int first = greatest ? GREATEST_FREQUENCY : LEAST_FREQUENCY;
        int step = greatest ? -FREQUENCY_STEP : FREQUENCY_STEP;
        int tries = GREATEST_FREQUENCY / FREQUENCY_STEP;
        for (int tried = 0; tried < tries; tried++) {
            int frequency = first + tried * step;
            if (hasPath(from, to, frequency, strength)) {
                return frequency;
            }
        }
        return NONE;
    }

    /** Returns how many places are skipped; NONE if all rays are lost on the first leg. */
    public int skipped(int place, boolean east, int frequency)
            throws IndexOutOfBoundsException, IllegalArgumentException {
        needPlace(place);
        needFrequency(frequency);
        int least = NONE;
        for (int angle = 1; angle <= ANGLES; angle++) {
            int layer = air.bender(place, east ? 1 : -1, angle, frequency);
            if (layer != NONE) {
                int length = lengthBy(layer, angle);
                least = least == NONE ? length : Math.min(least, length);
            }
        }
        return least == NONE ? NONE : Math.max(0, least - 1);
    }

    /** Returns the signal from a station at the place of another one; -1000 if there is none. */
    public int signal(int station, int other, int frequency)
            throws IndexOutOfBoundsException, IllegalArgumentException {
        needStation(station);
        needStation(other);
        needFrequency(frequency);
        needDifferent(station, other);
        return signalBetween(station, other, frequency);
    }

    /** Tells of a contact: 0 who called, 1 who was called, 2 frequency, 3 mode, 4 hour. */
    public int contactOf(int contact, int what) throws IndexOutOfBoundsException, IllegalArgumentException {
        if (!contacts.has(contact)) {
            throw new IndexOutOfBoundsException("no such contact");
        }
        needRange(what, 0, 4);
        return contacts.tell(contact, what);
    }

    /** Tells of an entry: 0 station, 1 the one noted, 2 frequency, 3 hour, 4 its pair, 5 whether it counts. */
    public int entryOf(int entry, int what) throws IndexOutOfBoundsException, IllegalArgumentException {
        if (!entries.has(entry)) {
            throw new IndexOutOfBoundsException("no such entry");
        }
        needRange(what, 0, 5);
        if (what == 5) {
            return counts(entry) ? 1 : 0;
        }
        return entries.tell(entry, what);
    }

    /** Returns the score of a station, perhaps below 0. */
    public int score(int station) throws IndexOutOfBoundsException {
        needStation(station);
        int points = 0;
        int lands = 0;
        int missed = 0;
        for (int n = 0; n < entries.made; n++) {
            if (entries.by[n] != station) {
                continue;
            }
            if (counts(n)) {
                int theirs = stations.place[entries.noted[n]];
                points += 1 + distance(stations.place[station], theirs) / 6;
                lands |= 1 << (theirs / LAND_WIDTH);
            } else if (entries.pair[n] == NONE && air.hourNow - entries.hourOf[n] >= 2) {
                missed++;
            }
        }
        return points * Integer.bitCount(lands) - 3 * missed;
    }

    /** Counts the forecasts that were right, or all that were made. */
    public int forecasts(boolean right) {
        return right ? forecastsRight : forecastsMade;
    }

    /** Counts: 0 stations, 1 beacons, 2 contacts, 3 entries, 4 those that are paired. */
    public int count(int what) throws IllegalArgumentException {
        needRange(what, 0, 4);
        switch (what) {
            case 0:
                return stations.made;
            case 1:
                return beacons.made;
            case 2:
                return contacts.made;
            case 3:
                return entries.made;
            default:
                return entries.paired;
        }
    }

    // ---- what the calls need

    private static void needPlace(int place) {
        if (place < 0 || place >= PLACES) {
            throw new IndexOutOfBoundsException("no such place");
        }
    }

    private static void needRange(int value, int least, int most) {
        if (value < least || value > most) {
            throw new IllegalArgumentException("out of its range");
        }
    }

    private static void needFrequency(int frequency) {
        needRange(frequency, LEAST_FREQUENCY, GREATEST_FREQUENCY);
    }

    private static void needStrength(int strength) {
        needRange(strength, 0, 100);
    }

    private static void needDifferent(int station, int other) {
        if (station == other) {
            throw new IllegalArgumentException("both stations are the same");
        }
    }

    private static void needRay(int place, int angle, int frequency, int leg) {
        needPlace(place);
        needRange(angle, 1, ANGLES);
        needFrequency(frequency);
        needRange(leg, 1, LEGS);
    }

    private static void needPath(int from, int to, int frequency, int strength) {
        needPlace(from);
        needPlace(to);
        needFrequency(frequency);
        needStrength(strength);
    }

    private void needStation(int station) {
        if (!stations.has(station)) {
            throw new IndexOutOfBoundsException("no such station");
        }
    }

    // ---- the ring, the light, the legs

    /** The place that a count of steps to the east of the place 0 leads to, perhaps below 0. */
    private static int ring(int steps) {
        int place = steps % PLACES;
        return place < 0 ? place + PLACES : place;
    }

    private static int distance(int place, int other) {
        int way = Math.abs(place - other);
        return Math.min(way, PLACES - way);
    }

    private static int lightIn(int hour, int place) {
        int local = (hour + place / 2) % DAY;
        return Math.max(0, 6 - Math.abs(local - NOON));
    }

    private static int lengthBy(int layer, int angle) {
        return layer == E ? (10 - angle) / 4 : (11 - angle) / 2;
    }

    private static boolean bends(int density, int angle, int frequency) {
        return 10 * frequency <= density * (46 - 4 * angle);
    }

    /** The length of the leg that begins there, or NONE, with each place walked to. */
    private int legAnew(int place, boolean east, int angle, int frequency) {
        for (int layer = E; layer <= F; layer++) {
            int length = lengthBy(layer, angle);
            int over = walked(place, east, length / 2);
            if (bends(air.densities[layer][over], angle, frequency)) {
                return length;
            }
        }
        return NONE;
    }

    private static int walked(int place, boolean east, int steps) {
        int at = place;
        for (int gone = 0; gone < steps; gone++) {
            if (east) {
                at = at >= PLACES - 1 ? 0 : at + 1;
            } else {
                at = at <= 0 ? PLACES - 1 : at - 1;
            }
        }
        return at;
    }

    // ---- paths, signals, contacts

    /**
     * Sends a ray until it first comes to the place, and tells whether it does.
     * The numbers of the rays, 0 to 17, follow the order in which paths are numbered.
     */
    private boolean reaches(Air through, int from, int to, int sent, int frequency, int strength) {
        ray.leave(from, directionOf(sent), angleOf(sent), frequency, strength);
        for (int leg = 0; leg < LEGS; leg++) {
            if (!ray.goOn(through, ground)) {
                return false;
            }
            if (ray.place == to) {
                return true;
            }
        }
        return false;
    }

    private static int directionOf(int sent) {
        return sent < ANGLES ? EAST : WEST;
    }

    private static int angleOf(int sent) {
        return sent % ANGLES + 1;
    }

    private boolean hasPath(int from, int to, int frequency, int strength) {
        for (int sent = 0; sent < RAYS; sent++) {
            if (reaches(air, from, to, sent, frequency, strength)) {
                return true;
            }
        }
        return false;
    }

    private int signalBetween(int station, int other, int frequency) {
        return signalAt(air, stations, station, frequency, stations.place[other]);
    }

    private int signalAt(Air through, Senders senders, int sender, int frequency, int place) {
        int strongest = NONE;
        for (int sent = 0; sent < RAYS; sent++) {
            int begins = senders.strengthAtFirst(sender, directionOf(sent), angleOf(sent));
            if (begins >= 0 && reaches(through, senders.place[sender], place, sent, frequency, begins)) {
                strongest = Math.max(strongest, ray.strength);
            }
        }
        return strongest == NONE ? NO_SIGNAL : strongest - noiseNow(place);
    }

    private int noiseNow(int place) {
        int dark = lightIn(air.hourNow, place) == 0 ? 3 : 0;
        return ground.noiseLevel[place] + dark;
    }

    private static int neededFor(int mode) {
        switch (mode) {
            case VOICE:
                return 10;
            case KEYED:
                return 4;
            default:
                return -2;
        }
    }

    /** A contact may come after the entries that it makes count, so this is asked anew each time. */
    private boolean counts(int entry) {
        int pair = entries.pair[entry];
        if (pair == NONE) {
            return false;
        }
        for (int n = 0; n < contacts.made; n++) {
            boolean then = contacts.hourOf[n] == entries.hourOf[entry] || contacts.hourOf[n] == entries.hourOf[pair];
            if (then && contacts.frequency[n] == entries.frequency[entry]
                    && contacts.isOf(n, entries.by[entry], entries.noted[entry])) {
                return true;
            }
        }
        return false;
    }

    /** The sun, a storm, a flare and clouds, and the densities that follow from them. */
    private static final class Air {
        private int hourNow;
        private int sunLevel = 50;
        private int stormStrength;
        private int stormHours;
        private int flareSize;
        private final int[] cloudStrength = new int[PLACES];
        private final int[] cloudHours = new int[PLACES];
        /** By layer and place, settled after each change, as rays look at them often. */
        private final int[][] densities = new int[LAYERS][PLACES];

        Air() {
            settle();
        }

        void shineFrom(int level) {
            sunLevel = level;
            settle();
        }

        void beginStorm(int strength, int hours) {
            stormStrength = strength;
            stormHours = hours;
            settle();
        }

        void burst(int size) {
            flareSize = size;
            settle();
        }

        void coverPlace(int place, int strength, int hours) {
            cloudStrength[place] = strength;
            cloudHours[place] = hours;
            settle();
        }

        void letGoBy(int hours) {
            for (int gone = 0; gone < hours; gone++) {
                letOneGoBy();
            }
            settle();
        }

        private void letOneGoBy() {
            hourNow++;
            flareSize /= 2;
            stormHours = Math.max(0, stormHours - 1);
            if (stormHours == 0) {
                stormStrength = 0;
            }
            for (int place = 0; place < PLACES; place++) {
                cloudHours[place] = Math.max(0, cloudHours[place] - 1);
                if (cloudHours[place] == 0) {
                    cloudStrength[place] = 0;
                }
            }
        }

        private void settle() {
            for (int place = 0; place < PLACES; place++) {
                int light = lightIn(hourNow, place);
                int flare = light > 0 ? flareSize : 0;
                int sun = light > 0 ? sunLevel / 2 : sunLevel / 4;
                densities[D][place] = 2 * light + flare;
                densities[E][place] = 10 + 6 * light + cloudStrength[place];
                densities[F][place] = Math.max(5, 30 + 5 * light + sun - stormStrength);
            }
        }

        /** The layer that bends the leg which begins there, or NONE. */
        int bender(int from, int step, int angle, int frequency) {
            int overE = ring(from + step * (lengthBy(E, angle) / 2));
            if (bends(densities[E][overE], angle, frequency)) {
                return E;
            }
            int overF = ring(from + step * (lengthBy(F, angle) / 2));
            return bends(densities[F][overF], angle, frequency) ? F : NONE;
        }
    }

    /** What the places are made of, and how noisy they are. */
    private static final class Ground {
        private final boolean[] isSea = new boolean[PLACES];
        private final int[] noiseLevel = new int[PLACES];

        int takes(int place) {
            return isSea[place] ? 3 : 6;
        }
    }

    /** A ray on its way. */
    private static final class Ray {
        private int place;
        private int direction;
        private int angle;
        private int frequency;
        private int strength;
        private int legs;
        private int legsByE;
        private int delay;

        void leave(int from, int towards, int rise, int tuned, int begins) {
            place = from;
            direction = towards;
            angle = rise;
            frequency = tuned;
            strength = begins;
            legs = 0;
            legsByE = 0;
            delay = 0;
        }

        /** Goes on by one leg; false if the ray is lost or absorbed and so does not come to its end. */
        boolean goOn(Air air, Ground ground) {
            int step = direction == EAST ? 1 : -1;
            int layer = air.bender(place, step, angle, frequency);
            if (layer == NONE) {
                return false;
            }
            int length = lengthBy(layer, angle);
            int end = ring(place + step * length);
            int dense = air.densities[D][place] + air.densities[D][end];
            int byGround = legs == 0 ? 0 : ground.takes(place);
            strength -= byGround + 2 + length + dense * 40 / frequency;
            if (strength < 0) {
                return false;
            }
            place = end;
            legs++;
            if (layer == E) {
                legsByE++;
            }
            delay += 10 * length + (layer == E ? 2 : 5);
            return true;
        }

        int tell(int what) {
            switch (what) {
                case 0:
                    return direction;
                case 1:
                    return angle;
                case 2:
                    return legs;
                case 3:
                    return legsByE;
                case 4:
                    return strength;
                default:
                    return delay;
            }
        }
    }

    /** Stations, or beacons, which send as stations do; a station's frequency is told with each call. */
    private static final class Senders {
        private final int[] place;
        private final int[] power;
        private final int[] antenna;
        private final int[] heading;
        private final int[] frequency;
        private int made;

        Senders(int most) {
            place = new int[most];
            power = new int[most];
            antenna = new int[most];
            heading = new int[most];
            frequency = new int[most];
        }

        boolean isFull() {
            return made >= place.length;
        }

        boolean has(int number) {
            return number >= 0 && number < made;
        }

        int add(int at, int strong, int built, int headed, int tuned) {
            int number = made;
            place[number] = at;
            power[number] = strong;
            antenna[number] = built;
            heading[number] = headed;
            frequency[number] = tuned;
            made++;
            return number;
        }

        int strengthAtFirst(int number, int direction, int angle) {
            return power[number] + gain(antenna[number], angle) - aside(heading[number], direction);
        }

        private static int gain(int antenna, int angle) {
            switch (antenna) {
                case LOW:
                    return 10 - 2 * angle;
                case HIGH:
                    return 2 * angle - 10;
                default:
                    return 0;
            }
        }

        private static int aside(int heading, int direction) {
            if (heading == BOTH) {
                return 3;
            }
            return heading == direction ? 0 : 20;
        }
    }

    /** Contacts, a row for each thing that is told of them. */
    private static final class Contacts {
        private final int[] caller = new int[MOST_CONTACTS];
        private final int[] called = new int[MOST_CONTACTS];
        private final int[] frequency = new int[MOST_CONTACTS];
        private final int[] mode = new int[MOST_CONTACTS];
        private final int[] hourOf = new int[MOST_CONTACTS];
        private int made;

        boolean isFull() {
            return made >= MOST_CONTACTS;
        }

        boolean has(int number) {
            return number >= 0 && number < made;
        }

        void add(int station, int other, int tuned, int spoken, int hour) {
            caller[made] = station;
            called[made] = other;
            frequency[made] = tuned;
            mode[made] = spoken;
            hourOf[made] = hour;
            made++;
        }

        /** Whether it is of both stations, whoever called. */
        boolean isOf(int number, int station, int other) {
            return caller[number] == station && called[number] == other
                    || caller[number] == other && called[number] == station;
        }

        int tell(int number, int what) {
            switch (what) {
                case 0:
                    return caller[number];
                case 1:
                    return called[number];
                case 2:
                    return frequency[number];
                case 3:
                    return mode[number];
                default:
                    return hourOf[number];
            }
        }
    }

    /** The entries of all logs, in the order in which they were made. */
    private static final class Entries {
        private final int[] by = new int[MOST_ENTRIES];
        private final int[] noted = new int[MOST_ENTRIES];
        private final int[] frequency = new int[MOST_ENTRIES];
        private final int[] hourOf = new int[MOST_ENTRIES];
        private final int[] pair = new int[MOST_ENTRIES];
        private int made;
        private int paired;

        boolean isFull() {
            return made >= MOST_ENTRIES;
        }

        boolean has(int number) {
            return number >= 0 && number < made;
        }

        int add(int station, int other, int tuned, int hour) {
            int number = made;
            int partner = partnerFor(station, other, tuned, hour);
            by[number] = station;
            noted[number] = other;
            frequency[number] = tuned;
            hourOf[number] = hour;
            pair[number] = partner;
            if (partner != NONE) {
                pair[partner] = number;
                paired += 2;
            }
            made++;
            return number;
        }

        /** The lowest entry that the new one is paired with, or NONE. */
        private int partnerFor(int station, int other, int tuned, int hour) {
            for (int n = 0; n < made; n++) {
                if (pair[n] == NONE && by[n] == other && noted[n] == station
                        && frequency[n] == tuned && hour - hourOf[n] <= 1) {
                    return n;
                }
            }
            return NONE;
        }

        int tell(int number, int what) {
            switch (what) {
                case 0:
                    return by[number];
                case 1:
                    return noted[number];
                case 2:
                    return frequency[number];
                case 3:
                    return hourOf[number];
                default:
                    return pair[number];
            }
        }
    }
}
