import java.util.function.Supplier;
import java.util.function.ToIntFunction;

/**
 * Looks at the edges that a sentence of the document names. Each look makes objects of its own, so that none of them is
 * used for more than 512 calls.
 */
final class Edges {
    // Ways to go on behind a call, which show all that an object keeps: the room, the history, the slots and the pad.
    private static final int MOST_UNDONE = 6, RESTORE_0 = 7, RESTORE_1 = 8, CARRY_OUT = 9, END_WITH_R = 10, END_WITH_0 = 11;

    private final Check check;
    private final Sentences document;
    private String about = "";

    Edges(Check check, Sentences document) {
        this.check = check;
        this.document = document;
    }

    /** The looks behind this are at that sentence, which has to stand in that section of the document. */
    void sentence(String section, String words) {
        end();
        about = section + ": '" + words + "'";
        if (!document.quote(section, words)) {
            check.fail(about + " is not what the document says");
        }
        check.begin();
    }

    /** Each sentence that was named has to be looked at. */
    void end() {
        if (!about.isEmpty() && check.asked() == 0) {
            check.fail(about + " is not looked at");
        }
        about = "";
    }

    void due(String call, long got, long want) {
        check.due(about + ": " + call, got, want);
    }

    /** A call has to return an error, and to change nothing that an object keeps. */
    void refused(String call, Supplier<TeaSeats> room, ToIntFunction<TeaSeats> ask, int error) {
        due("an error of " + call, error < 0 ? 1 : 0, 1);
        unchanged(call, room, ask, error);
    }

    /** Of two objects that are made alike one is asked; both have to go on alike. */
    void unchanged(String call, Supplier<TeaSeats> room, ToIntFunction<TeaSeats> ask, int want) {
        for (int way = 0; way <= END_WITH_0; way++) {
            TeaSeats asked = room.get();
            TeaSeats left = room.get();
            due(call, ask.applyAsInt(asked), want);
            check.same(about + ": what goes on (" + way + ") behind " + call, goneOn(asked, way), goneOn(left, way));
        }
    }

    /** A call has to be one change: with undo the room is as before, and the slots and the pad are as if nothing was. */
    void changed(String call, Supplier<TeaSeats> room, ToIntFunction<TeaSeats> ask, int want) {
        for (int way : new int[] {0, RESTORE_0, RESTORE_1, CARRY_OUT}) {
            TeaSeats asked = room.get();
            TeaSeats left = room.get();
            int undoable = Math.min(MOST_UNDONE, left.count(18) + 1);
            due(call, ask.applyAsInt(asked), want);
            due("count(18) behind " + call, asked.count(18), undoable);
            due("undo() behind " + call, asked.undo(), undoable - 1);
            // What can be undone may differ: the oldest state is dropped by a seventh one.
            check.same(about + ": what is (" + way + ") behind undo() of " + call, shown(asked, way), shown(left, way));
        }
    }

    private static String goneOn(TeaSeats x, int way) {
        StringBuilder answers = new StringBuilder("undo() answered");
        for (int times = 0; times < way && way <= MOST_UNDONE; times++) {
            answers.append(' ').append(x.undo());
        }
        return answers.append('\n').append(answerOf(x, way)).append(View.of(x)).toString();
    }

    private static String shown(TeaSeats x, int way) {
        return answerOf(x, way) + View.ofRoom(x) + "pad " + x.count(17) + " fault " + x.fault();
    }

    private static String answerOf(TeaSeats x, int way) {
        switch (way) {
            case RESTORE_0: return "restore(0) answered " + x.restore(0) + "\n";
            case RESTORE_1: return "restore(1) answered " + x.restore(1) + "\n";
            case CARRY_OUT: return "carryOut() answered " + x.carryOut() + "\n";
            case END_WITH_R: return "put('r') answered " + x.put('r') + ", carryOut() " + x.carryOut() + "\n";
            case END_WITH_0: return "put('0') answered " + x.put('0') + ", carryOut() " + x.carryOut() + "\n";
            default: return "";
        }
    }
}
