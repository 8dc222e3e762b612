import java.util.Random;
import java.util.function.Supplier;

/** Long runs of calls on SkipRays and on the Model, which must answer alike; the seeds are always the same. */
final class ModelTests {
    private static final int RUNS = 600;
    private static final int CALLS = 512;
    private static final int[] FREQUENCIES = {10, 20, 30, 42, 43, 60, 80, 100, 140, 160, 176, 200, 230, 252, 300};

    private final Due due;
    private Random random;
    private SkipRays real;
    private Model model;
    private int[] places;
    private int[] frequencies;
    private boolean busy;
    private String what;

    ModelTests(Due due) {
        this.due = due;
    }

    void run() {
        int failed = due.failed();
        for (int seed = 0; seed < RUNS && due.failed() < failed + 20; seed++) {
            oneRun(seed);
        }
    }

    private void oneRun(int seed) {
        random = new Random(seed);
        real = new SkipRays();
        model = new Model();
        places = new int[3 + random.nextInt(5)];
        for (int n = 0; n < places.length; n++) {
            places[n] = n > 0 && random.nextInt(3) > 0 ? (places[0] + random.nextInt(11) + 43) % 48 : random.nextInt(48);
        }
        frequencies = new int[1 + random.nextInt(3)];
        for (int n = 0; n < frequencies.length; n++) {
            frequencies[n] = FREQUENCIES[random.nextInt(FREQUENCIES.length)];
        }
        busy = seed % 2 == 1;
        int firstStations = random.nextInt(6);
        for (int call = 0; call < CALLS; call++) {
            int kind = call < firstStations ? 7 : random.nextInt(busy ? 60 : 48);
            oneCall("seed " + seed + ", call " + call + ": ", kind);
        }
    }

    private void oneCall(String which, int kind) {
        String[] answers = kind < 12 ? tellAir(kind) : kind < 40 ? ask(kind) : useRadio(kind);
        due.note(which + what, answers[0], answers[1]);
    }

    private String[] both(Supplier<Object> ofReal, Supplier<Object> ofModel) {
        return new String[] {answerOf(ofReal), answerOf(ofModel)};
    }

    private static String answerOf(Supplier<Object> call) {
        try {
            return String.valueOf(call.get());
        } catch (RuntimeException thrown) {
            return thrown.getClass().getSimpleName();
        }
    }

    /** Mostly in the range, often at its ends, now and then out of it. */
    private int number(int least, int most) {
        int draw = random.nextInt(100);
        if (draw < 2) {
            int[] wrong = {least - 1, most + 1, Integer.MIN_VALUE, Integer.MAX_VALUE, -1};
            return wrong[random.nextInt(wrong.length)];
        }
        if (draw < 8) {
            return draw % 2 == 0 ? least : most;
        }
        return least + random.nextInt(most - least + 1);
    }

    private int place() {
        return random.nextInt(4) > 0 ? places[random.nextInt(places.length)] : number(0, 47);
    }

    private int frequency() {
        return random.nextInt(3) > 0 ? frequencies[random.nextInt(frequencies.length)] : number(10, 300);
    }

    private int station() {
        return number(0, Math.max(0, real.count(0) - 1));
    }

    private int power() {
        return random.nextInt(3) > 0 ? 40 + random.nextInt(41) : number(1, 80);
    }

    private int strength() {
        return random.nextInt(2) > 0 ? 60 + random.nextInt(41) : number(0, 100);
    }

    private String[] tellAir(int kind) {
        int a = place();
        switch (kind) {
            case 0: {
                int level = number(0, 100);
                what = "sun(" + level + ")";
                return both(() -> real.sun(level), () -> model.sun(level));
            }
            case 1: {
                int strength = number(1, 60);
                int hours = random.nextBoolean() ? 1 + random.nextInt(4) : number(1, 72);
                what = "storm(" + strength + ", " + hours + ")";
                return both(() -> done(() -> real.storm(strength, hours)), () -> done(() -> model.storm(strength, hours)));
            }
            case 2: {
                int size = number(1, 80);
                what = "flare(" + size + ")";
                return both(() -> real.flare(size), () -> model.flare(size));
            }
            case 3: {
                int strength = number(1, 100);
                int hours = random.nextBoolean() ? 1 + random.nextInt(4) : number(1, 24);
                what = "cloud(" + a + ", " + strength + ", " + hours + ")";
                return both(() -> done(() -> real.cloud(a, strength, hours)),
                        () -> done(() -> model.cloud(a, strength, hours)));
            }
            case 4: {
                boolean is = random.nextInt(3) > 0;
                what = "sea(" + a + ", " + is + ")";
                return both(() -> real.sea(a, is), () -> model.sea(a, is));
            }
            case 5: {
                int level = random.nextInt(3) > 0 ? random.nextInt(5) : number(0, 40);
                what = "noise(" + a + ", " + level + ")";
                return both(() -> real.noise(a, level), () -> model.noise(a, level));
            }
            case 6:
                return passHours();
            case 7: {
                int power = power();
                int antenna = number(0, 2);
                int heading = number(0, 2);
                what = "station(" + a + ", " + power + ", " + antenna + ", " + heading + ")";
                return both(() -> real.station(a, power, antenna, heading),
                        () -> model.station(a, power, antenna, heading));
            }
            case 8: {
                int frequency = frequency();
                int power = power();
                what = "beacon(" + a + ", " + frequency + ", " + power + ")";
                return both(() -> real.beacon(a, frequency, power), () -> model.beacon(a, frequency, power));
            }
            default:
                what = "listen(" + a + ")";
                return both(() -> real.listen(a), () -> model.listen(a));
        }
    }

    private static Object done(Runnable call) {
        call.run();
        return "done";
    }

    private String[] passHours() {
        int hours = random.nextInt(4) > 0 ? 1 : number(1, busy ? 4 : 48);
        what = "pass(" + hours + ")";
        return both(() -> real.pass(hours), () -> model.pass(hours));
    }

    private String[] ask(int kind) {
        int a = place();
        int b = place();
        int f = frequency();
        int s = strength();
        boolean yes = random.nextBoolean();
        switch (kind) {
            case 12:
                what = "hour()";
                return both(() -> real.hour(), () -> model.hour());
            case 13: {
                int later = number(0, 24);
                what = "light(" + a + ", " + later + ")";
                return both(() -> real.light(a, later), () -> model.light(a, later));
            }
            case 14:
            case 15: {
                int layer = number(0, 2);
                what = "density(" + a + ", " + layer + ")";
                return both(() -> real.density(a, layer), () -> model.density(a, layer));
            }
            case 16:
            case 17:
            case 18:
            case 19: {
                int angle = number(1, 9);
                int leg = number(1, 10);
                String arguments = "(" + a + ", " + yes + ", " + angle + ", " + f + ", " + leg + ")";
                if (kind < 18) {
                    what = "landing" + arguments;
                    return both(() -> real.landing(a, yes, angle, f, leg), () -> model.landing(a, yes, angle, f, leg));
                }
                what = "landingAnew" + arguments;
                return both(() -> real.landingAnew(a, yes, angle, f, leg), () -> model.landingAnew(a, yes, angle, f, leg));
            }
            case 20:
            case 21:
                what = "paths(" + a + ", " + b + ", " + f + ", " + s + ")";
                return both(() -> real.paths(a, b, f, s), () -> model.paths(a, b, f, s));
            case 22:
            case 23:
            case 24:
            case 25: {
                int path = random.nextInt(3) > 0 ? 0 : number(0, 5);
                int part = number(0, 5);
                what = "path(" + a + ", " + b + ", " + f + ", " + s + ", " + path + ", " + part + ")";
                return both(() -> real.path(a, b, f, s, path, part), () -> model.path(a, b, f, s, path, part));
            }
            case 26:
            case 27: {
                int delay = random.nextInt(3) > 0 ? random.nextInt(250) : number(0, 1000);
                what = "explain(" + a + ", " + b + ", " + f + ", " + s + ", " + delay + ")";
                return both(() -> real.explain(a, b, f, s, delay), () -> model.explain(a, b, f, s, delay));
            }
            case 28:
            case 29:
                what = "usable(" + a + ", " + b + ", " + s + ", " + yes + ")";
                return both(() -> real.usable(a, b, s, yes), () -> model.usable(a, b, s, yes));
            case 30:
            case 31:
                what = "skipped(" + a + ", " + yes + ", " + f + ")";
                return both(() -> real.skipped(a, yes, f), () -> model.skipped(a, yes, f));
            default:
                return askLogs(kind, yes);
        }
    }

    private String[] askLogs(int kind, boolean yes) {
        int a = station();
        switch (kind) {
            case 32: {
                int number = number(0, Math.max(0, real.count(2) - 1));
                int part = number(0, 4);
                what = "contactOf(" + number + ", " + part + ")";
                return both(() -> real.contactOf(number, part), () -> model.contactOf(number, part));
            }
            case 33:
            case 34:
            case 35: {
                int number = number(0, Math.max(0, real.count(3) - 1));
                int part = number(0, 5);
                what = "entryOf(" + number + ", " + part + ")";
                return both(() -> real.entryOf(number, part), () -> model.entryOf(number, part));
            }
            case 36:
            case 37:
                what = "score(" + a + ")";
                return both(() -> real.score(a), () -> model.score(a));
            case 38:
                what = "forecasts(" + yes + ")";
                return both(() -> real.forecasts(yes), () -> model.forecasts(yes));
            default: {
                int part = number(0, 4);
                what = "count(" + part + ")";
                return both(() -> real.count(part), () -> model.count(part));
            }
        }
    }

    private String[] useRadio(int kind) {
        int a = station();
        int b = station();
        int f = frequency();
        if (kind < 43) {
            what = "signal(" + a + ", " + b + ", " + f + ")";
            return both(() -> real.signal(a, b, f), () -> model.signal(a, b, f));
        }
        if (kind % 2 == 1) {
            int mode = random.nextInt(2) > 0 ? 2 : number(0, 2);
            what = "call(" + a + ", " + b + ", " + f + ", " + mode + ")";
            return both(() -> real.call(a, b, f, mode), () -> model.call(a, b, f, mode));
        }
        what = "log(" + a + ", " + b + ", " + f + ")";
        return both(() -> real.log(a, b, f), () -> model.log(a, b, f));
    }
}
