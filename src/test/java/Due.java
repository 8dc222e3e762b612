import java.util.Set;
import java.util.TreeSet;

/** Compares answers with those that are due, and counts. */
final class Due {
    private final Set<Integer> promises = new TreeSet<>();
    private int promise;
    private String test = "";
    private int passed;
    private int failed;

    /** The checks that follow are of this promise of the document. */
    void promise(int number) {
        edge(number, "");
    }

    /** The checks that follow are of this promise, and of the test of this name. */
    void edge(int number, String name) {
        promise = number;
        test = name;
        promises.add(number);
    }

    boolean tested(int number) {
        return promises.contains(number);
    }

    void is(String what, long got, long want) {
        note(what, String.valueOf(got), String.valueOf(want));
    }

    void is(String what, boolean got, boolean want) {
        note(what, String.valueOf(got), String.valueOf(want));
    }

    /** There is no such place, station, beacon, contact, entry or path. */
    void outside(String what, Runnable call) {
        throwing(what, call, IndexOutOfBoundsException.class);
    }

    void refused(String what, Runnable call) {
        throwing(what, call, IllegalArgumentException.class);
    }

    void full(String what, Runnable call) {
        throwing(what, call, IllegalStateException.class);
    }

    /** Just this exception, not one of a class below it. */
    void throwing(String what, Runnable call, Class<?> wanted) {
        note(what, thrownBy(call), wanted.getName());
    }

    void note(String what, String got, String want) {
        if (got.equals(want)) {
            passed++;
        } else {
            failed++;
            String where = test.isEmpty() ? "promise " + promise : test;
            System.out.println(where + ": " + what + " answered " + got + ", due is " + want);
        }
    }

    private static String thrownBy(Runnable call) {
        try {
            call.run();
            return "nothing thrown";
        } catch (RuntimeException thrown) {
            return thrown.getClass().getName();
        }
    }

    int passed() {
        return passed;
    }

    int failed() {
        return failed;
    }
}
