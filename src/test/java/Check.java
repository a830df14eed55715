import java.util.function.IntSupplier;

/** Counts the answers that are not as due, and prints each of them. */
final class Check {
    private final String test;
    private int asked;
    private int askedAhead;
    private int wrong;

    Check(String test) {
        this.test = test;
    }

    void due(String call, long got, long want) {
        asked++;
        if (got != want) {
            fail(call + " answered " + got + ", due is " + want);
        }
    }

    void same(String what, String got, String want) {
        asked++;
        if (!got.equals(want)) {
            fail(what + " is\n" + got + "\ndue is\n" + want);
        }
    }

    /** A call that changes nothing, be its answer an error or not; EdgesTest looks at all that an object keeps. */
    void refused(TeaSeats seats, String call, IntSupplier answer, int want) {
        String before = glance(seats);
        due(call, answer.getAsInt(), want);
        same("what there is behind " + call, glance(seats), before);
    }

    /** A call has to be recorded as one change. */
    void change(TeaSeats seats, String call, IntSupplier answer, int want) {
        int undoable = seats.count(18);
        due(call, answer.getAsInt(), want);
        due("count(18) behind " + call, seats.count(18), Math.min(6, undoable + 1));
    }

    /** Of few calls, as an object is used for 512 at most: breaths, guests, words, the pad and the history. */
    private static String glance(TeaSeats seats) {
        return seats.count(0) + " " + seats.count(11) + " " + seats.count(9) + " " + seats.count(17) + " " + seats.count(18);
    }

    /** From here on asked() counts anew. */
    void begin() {
        askedAhead = asked;
    }

    int asked() {
        return asked - askedAhead;
    }

    void fail(String what) {
        wrong++;
        System.out.println(test + ": " + what);
    }

    void end() {
        System.out.println(test + ": " + asked + " checks, " + wrong + " wrong");
        if (wrong != 0) {
            System.exit(1);
        }
    }
}
