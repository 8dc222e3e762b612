import java.lang.reflect.Constructor;
import java.lang.reflect.Field;
import java.lang.reflect.Method;
import java.lang.reflect.Modifier;
import java.util.ArrayList;
import java.util.Arrays;
import java.util.List;
import java.util.TreeSet;

/** The public face, the constants, and a new object. */
final class FaceTests {
    private static final String[] METHODS = {
        "int sun(int)", "void storm(int,int)", "int flare(int)", "void cloud(int,int,int)",
        "boolean sea(int,boolean)", "int noise(int,int)", "int pass(int)", "int station(int,int,int,int)",
        "int beacon(int,int,int)", "boolean call(int,int,int,int)", "int log(int,int,int)", "int listen(int)",
        "int hour()", "int light(int,int)", "int density(int,int)", "int landing(int,boolean,int,int,int)",
        "int landingAnew(int,boolean,int,int,int)", "int paths(int,int,int,int)",
        "int path(int,int,int,int,int,int)", "int explain(int,int,int,int,int)",
        "int usable(int,int,int,boolean)", "int skipped(int,boolean,int)", "int signal(int,int,int)",
        "int contactOf(int,int)", "int entryOf(int,int)", "int score(int)", "int forecasts(boolean)",
        "int count(int)"
    };

    private final Due due;

    FaceTests(Due due) {
        this.due = due;
    }

    void run() {
        due.promise(1);
        constants();
        members();
        newObject();
        objectsApart();
    }

    private void constants() {
        due.is("NONE", SkipRays.NONE, -1);
        due.is("D", SkipRays.D, 0);
        due.is("E", SkipRays.E, 1);
        due.is("F", SkipRays.F, 2);
        due.is("LOW", SkipRays.LOW, 0);
        due.is("HIGH", SkipRays.HIGH, 1);
        due.is("EVEN", SkipRays.EVEN, 2);
        due.is("EAST", SkipRays.EAST, 0);
        due.is("WEST", SkipRays.WEST, 1);
        due.is("BOTH", SkipRays.BOTH, 2);
        due.is("VOICE", SkipRays.VOICE, 0);
        due.is("KEYED", SkipRays.KEYED, 1);
        due.is("SLOW", SkipRays.SLOW, 2);
    }

    /** Nothing but the document's face may be seen from outside. */
    private void members() {
        List<String> methods = new ArrayList<>();
        for (Method method : SkipRays.class.getDeclaredMethods()) {
            if (!Modifier.isPrivate(method.getModifiers()) && !method.isSynthetic()) {
                methods.add(signatureOf(method));
            }
        }
        due.note("the methods", new TreeSet<>(methods).toString(), new TreeSet<>(Arrays.asList(METHODS)).toString());
        Constructor<?>[] constructors = SkipRays.class.getConstructors();
        due.is("the constructors", constructors.length, 1);
        due.is("their parameters", constructors[0].getParameterCount(), 0);
        int seen = 0;
        for (Field field : SkipRays.class.getDeclaredFields()) {
            if (Modifier.isStatic(field.getModifiers())) {
                due.is(field.getName() + " is final", Modifier.isFinal(field.getModifiers()), true);
            }
            seen += Modifier.isPublic(field.getModifiers()) ? 1 : 0;
        }
        due.is("the constants", seen, 13);
        due.is("a final class", Modifier.isFinal(SkipRays.class.getModifiers()), true);
    }

    private static String signatureOf(Method method) {
        StringBuilder text = new StringBuilder(method.getReturnType().getName());
        text.append(' ').append(method.getName()).append('(');
        for (Class<?> type : method.getParameterTypes()) {
            text.append(text.charAt(text.length() - 1) == '(' ? "" : ",").append(type.getName());
        }
        return text.append(')').toString();
    }

    private void newObject() {
        SkipRays air = new SkipRays();
        due.is("hour", air.hour(), 0);
        for (int place = 0; place < 48; place++) {
            due.is("land at " + place, air.sea(place, false), false);
            due.is("noise at " + place, air.noise(place, 0), 0);
        }
        for (int what = 0; what <= 4; what++) {
            due.is("count " + what, air.count(what), 0);
        }
        due.is("forecasts", air.forecasts(false), 0);
        due.is("right forecasts", air.forecasts(true), 0);
        due.is("flare", air.flare(1), 0);
        due.is("sun", air.sun(0), 50);
    }

    private void objectsApart() {
        SkipRays one = new SkipRays();
        SkipRays other = new SkipRays();
        one.sun(10);
        one.pass(3);
        one.sea(5, true);
        one.station(3, 10, 0, 0);
        due.is("sun of the other object", other.sun(50), 50);
        due.is("hour of the other object", other.hour(), 0);
        due.is("sea of the other object", other.sea(5, false), false);
        due.is("stations of the other object", other.count(0), 0);
    }
}
