import java.lang.reflect.InvocationTargetException;
import java.lang.reflect.Method;
import java.util.Map;
import java.util.TreeMap;
import java.util.function.Consumer;
import java.util.function.Supplier;
import java.util.regex.Matcher;
import java.util.regex.Pattern;

/**
 * Tests of boundary cases, one method for each sentence of the document that names one. A method's name begins
 * with the numbers of the promises that it tests: promise02Something, promise17And18Something.
 */
abstract class Edges {
    private static final Pattern NAME = Pattern.compile("promise(\\d\\d)(?:And(\\d\\d))?[A-Z]\\w*");
    private static final int NO_PROMISE = 0;

    final Due due;
    private final int[] tests;

    /** Counts the tests of each promise in the row that is given. */
    Edges(Due due, int[] tests) {
        this.due = due;
        this.tests = tests;
    }

    final void run() {
        Map<String, Method> methods = new TreeMap<>();
        for (Method method : getClass().getDeclaredMethods()) {
            if (NAME.matcher(method.getName()).matches()) {
                methods.put(method.getName(), method);
            }
        }
        for (Method method : methods.values()) {
            runOne(method);
        }
        due.promise(NO_PROMISE);
    }

    private void runOne(Method method) {
        Matcher name = NAME.matcher(method.getName());
        if (name.matches()) {
            for (int group = 1; group <= name.groupCount(); group++) {
                if (name.group(group) != null) {
                    tests[Integer.parseInt(name.group(group))]++;
                }
            }
            due.edge(Integer.parseInt(name.group(1)), method.getName());
        }
        try {
            method.invoke(this);
        } catch (InvocationTargetException thrown) {
            due.note("the test itself", String.valueOf(thrown.getCause()), "no exception");
        } catch (IllegalAccessException hidden) {
            due.note("the test itself", hidden.toString(), "no exception");
        }
    }

    /** There is no such place, station, beacon, contact, entry or path; and nothing has changed. */
    final void outside(String what, Supplier<SkipRays> scene, Consumer<SkipRays> call) {
        throwing(what, scene, call, IndexOutOfBoundsException.class);
    }

    /** An argument is out of its range; and nothing has changed. */
    final void refused(String what, Supplier<SkipRays> scene, Consumer<SkipRays> call) {
        throwing(what, scene, call, IllegalArgumentException.class);
    }

    /** There are as many as there may be; and nothing has changed. */
    final void full(String what, Supplier<SkipRays> scene, Consumer<SkipRays> call) {
        throwing(what, scene, call, IllegalStateException.class);
    }

    private void throwing(String what, Supplier<SkipRays> scene, Consumer<SkipRays> call, Class<?> wanted) {
        SkipRays air = scene.get();
        due.throwing(what, () -> call.accept(air), wanted);
        due.note(what + ": a look afterwards", Look.difference(air, scene.get()), Look.NO_DIFFERENCE);
    }

    /** The calls change nothing that can be seen. */
    final void asking(String what, Supplier<SkipRays> scene, Consumer<SkipRays> calls) {
        SkipRays air = scene.get();
        calls.accept(air);
        due.note(what + ": a look afterwards", Look.difference(air, scene.get()), Look.NO_DIFFERENCE);
    }

    /** Both are in the same state, as far as it can be seen. */
    final void alike(String what, SkipRays one, SkipRays other) {
        due.note(what + ": a look at both", Look.difference(one, other), Look.NO_DIFFERENCE);
    }
}
