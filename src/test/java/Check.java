import java.util.function.IntSupplier;

/** Counts the answers that are not as due, and prints each of them. */
final class Check {
    private final String test;
    private int asked;
    private int askedAhead;
    private int wrong;

    Check(String test) {
        this.test = test;
    }

    void due(String call, long got, long want) {
        asked++;
        if (got != want) {
            fail(call + " answered " + got + ", due is " + want);
        }
    }

    void same(String what, String got, String want) {
        asked++;
        if (!got.equals(want)) {
            fail(what + " is\n" + got + "\ndue is\n" + want);
        }
    }

    /** A call has to return an error, and to change nothing. */
    void refused(TeaSeats seats, String call, IntSupplier answer, int error) {
        String before = View.of(seats);
        due(call, answer.getAsInt(), error);
        same("what there is behind " + call, View.of(seats), before);
    }

    /** A call has to be recorded as one change, and undo has to bring back what was before it. */
    void change(TeaSeats seats, String call, IntSupplier answer, int want) {
        String before = View.ofRoom(seats);
        int undoable = seats.count(18);
        due(call, answer.getAsInt(), want);
        due("count(18) behind " + call, seats.count(18), Math.min(6, undoable + 1));
        String behind = View.ofRoom(seats);
        seats.save(1);
        due("undo() of " + call, seats.undo(), Math.min(6, undoable + 1) - 1);
        same("what there is behind undo() of " + call, View.ofRoom(seats), before);
        // Slot 1 is this helper's own: it goes on from the state behind the call.
        seats.restore(1);
        same("what there is behind restore() of " + call, View.ofRoom(seats), behind);
    }

    /** From here on asked() counts anew. */
    void begin() {
        askedAhead = asked;
    }

    int asked() {
        return asked - askedAhead;
    }

    void fail(String what) {
        wrong++;
        System.out.println(test + ": " + what);
    }

    void end() {
        System.out.println(test + ": " + asked + " checks, " + wrong + " wrong");
        if (wrong != 0) {
            System.exit(1);
        }
    }
}
