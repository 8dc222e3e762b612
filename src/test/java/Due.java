import java.util.Set;
import java.util.TreeSet;

/** Compares answers with those that are due, and counts. */
final class Due {
    private final Set<Integer> promises = new TreeSet<>();
    private int promise;
    private int passed;
    private int failed;

    /** The checks that follow are of this promise of the document. */
    void promise(int number) {
        promise = number;
        promises.add(number);
    }

    boolean tested(int number) {
        return promises.contains(number);
    }

    void is(String what, long got, long want) {
        note(what, String.valueOf(got), String.valueOf(want));
    }

    void is(String what, boolean got, boolean want) {
        note(what, String.valueOf(got), String.valueOf(want));
    }

    /** There is no such place, station, beacon, contact, entry or path. */
    void outside(String what, Runnable call) {
        note(what, thrownBy(call), IndexOutOfBoundsException.class.getName());
    }

    void refused(String what, Runnable call) {
        note(what, thrownBy(call), IllegalArgumentException.class.getName());
    }

    void full(String what, Runnable call) {
        note(what, thrownBy(call), IllegalStateException.class.getName());
    }

    void note(String what, String got, String want) {
        if (got.equals(want)) {
            passed++;
        } else {
            failed++;
            System.out.println("promise " + promise + ": " + what + " answered " + got + ", due is " + want);
        }
    }

    private static String thrownBy(Runnable call) {
        try {
            call.run();
            return "nothing thrown";
        } catch (RuntimeException thrown) {
            return thrown.getClass().getName();
        }
    }

    int passed() {
        return passed;
    }

    int failed() {
        return failed;
    }
}
